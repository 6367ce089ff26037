set_option maxHeartbeats 4000000 in
set_option maxRecDepth 100000 in
theorem law_desk {p : Program} {l : Launch} {e : Env} {s : State} {m : MethodId} {below : List Frame} {meth : Method} {c : Code} {D : va_G} {ct : Nat → ClassId} {ad mo : Nat → Nat} {b L : Nat} {xs : Nat → Int32} (hL : L ≤ 4096) (F : Fx p m meth c code 4 s #[Value.ref b] R_L D (tyL ct) (fun q : Nat => s.heap.size ≤ q)) (hX : va_X b L xs s s.heap) (hbl : b < s.heap.size) (hbA : ¬ (fun q : Nat => s.heap.size ≤ q) b) {i : Nat} {u1 u2 : va_W} (hi : i + 8 ≤ L) (hR : Rel ct ad mo u1 u2) (kk : ∀ v1 v2, Rel ct ad mo v1 v2 → V p l e room_1 s m #[Value.ref b] below meth c D (fun q : Nat => s.heap.size ≤ q) 4 (40 + (i + 8)) (110000 + 50 * (i + 8)) (lw_Z below #[Value.ref b] s) (v1 ++ v2) [(3, .int (nI (i + 8))), (2, .ref (mo 0)), (1, .ref (ad 0)), (0, .ref (b))] 18 []) : V p l e room_1 s m #[Value.ref b] below meth c D (fun q : Nat => s.heap.size ≤ q) 4 (40 + i) (110000 + 50 * i) (lw_Z below #[Value.ref b] s) (u1 ++ u2) [(3, .int (nI (i))), (2, .ref (mo 0)), (1, .ref (ad 0)), (0, .ref (b))] 100 [] := by
  refine V.aload_n F d_L_law_100 rfl 2 rfl ?_
  obtain ⟨p1, p2, hc, hm, hrel⟩ := both_desk l D hR 
  obtain ⟨f1, hq1⟩ := rel_T hR
  obtain ⟨f2, hq2⟩ := rel_M hR
  refine V.callVI (As := []) (rest := []) F hc d_L_law_101 sv_L_13 im_y_T_desk sl_y_T_desk [] u2 rfl 0 (ap_l hq1) rfl rfl rfl rfl (Nat.le_of_ble_eq_true rfl) ⟨rfl, rfl, (Nat.le_of_ble_eq_true rfl), (Nat.le_of_ble_eq_true rfl)⟩ ⟨by show _ ≤ 600000; omega, by show _ ≤ 7302250; omega⟩ (fun r1 v1 h1 => ?_)
  refine V.ws_eq (ws2 := v1 ++ u2) rfl ?_
  refine V.aload_n F d_L_law_104 rfl 1 rfl ?_
  refine V.callVI (As := []) (rest := [.int (r1)]) F hm d_L_law_105 sv_L_17 im_y_M_desk sl_y_M_desk v1 [] (by rw [List.append_nil]) v1.length (ap_r hq2) rfl rfl rfl rfl (Nat.le_of_ble_eq_true rfl) ⟨rfl, rfl, (Nat.le_of_ble_eq_true rfl), (Nat.le_of_ble_eq_true rfl)⟩ ⟨by show _ ≤ 600000; omega, by show _ ≤ 7302250; omega⟩ (fun r2 v2 h2 => ?_)
  refine V.ws_eq (ws2 := v1 ++ v2) (by rw [List.append_nil]) ?_
  obtain ⟨e9, hR2⟩ := hrel r1 r2 v1 v2 h1 h2
  refine V.icmp_eq (x := r1) (y := r2) (tgt := 818) F d_L_law_108 (by decide) (fun c108 => ?_) (fun c108 => ?_)
  · skip
    refine V.iincN (k := 8) (lv2 := [(3, .int (nI (i + 8))), (2, .ref (mo 0)), (1, .ref (ad 0)), (0, .ref (b))]) F d_L_law_818 0 rfl (by decide) (by decide) rfl ?_
    refine V.goto (tgt := 18) F d_L_law_821 (by decide) ?_
    refine V.widen (k := 40 + (i + 8)) (n := 110000 + 50 * (i + 8)) (by omega) (by omega) ?_
    exact kk v1 v2 hR2
  · skip
    exact absurd e9 c108

set_option maxHeartbeats 4000000 in
set_option maxRecDepth 100000 in
theorem law_tell {p : Program} {l : Launch} {e : Env} {s : State} {m : MethodId} {below : List Frame} {meth : Method} {c : Code} {D : va_G} {ct : Nat → ClassId} {ad mo : Nat → Nat} {b L : Nat} {xs : Nat → Int32} (hL : L ≤ 4096) (F : Fx p m meth c code 4 s #[Value.ref b] R_L D (tyL ct) (fun q : Nat => s.heap.size ≤ q)) (hX : va_X b L xs s s.heap) (hbl : b < s.heap.size) (hbA : ¬ (fun q : Nat => s.heap.size ≤ q) b) {i : Nat} {u1 u2 : va_W} (hi : i + 8 ≤ L) (hR : Rel ct ad mo u1 u2) (kk : ∀ v1 v2, Rel ct ad mo v1 v2 → V p l e room_1 s m #[Value.ref b] below meth c D (fun q : Nat => s.heap.size ≤ q) 4 (40 + (i + 8)) (110000 + 50 * (i + 8)) (lw_Z below #[Value.ref b] s) (v1 ++ v2) [(3, .int (nI (i + 8))), (2, .ref (mo 0)), (1, .ref (ad 0)), (0, .ref (b))] 18 []) : V p l e room_1 s m #[Value.ref b] below meth c D (fun q : Nat => s.heap.size ≤ q) 4 (40 + i) (110000 + 50 * i) (lw_Z below #[Value.ref b] s) (u1 ++ u2) [(3, .int (nI (i))), (2, .ref (mo 0)), (1, .ref (ad 0)), (0, .ref (b))] 113 [] := by
  refine V.aload_n F d_L_law_113 rfl 2 rfl ?_
  refine V.aload_n F d_L_law_114 rfl 3 rfl ?_
  refine V.iload_n F d_L_law_115 rfl 0 rfl ?_
  refine V.iconst F d_L_law_116 (v := nI (1)) (by decide) ?_
  refine V.iaddN F d_L_law_117 ?_
  refine V.sld (i := (i) + (1)) F d_L_law_118 hX hbl hbA (by omega) (by omega) rfl ?_
  refine V.aload_n F d_L_law_119 rfl 3 rfl ?_
  refine V.iload_n F d_L_law_120 rfl 0 rfl ?_
  refine V.iconst F d_L_law_121 (v := nI (2)) (by decide) ?_
  refine V.iaddN F d_L_law_122 ?_
  refine V.sld (i := (i) + (2)) F d_L_law_123 hX hbl hbA (by omega) (by omega) rfl ?_
  refine V.aload_n F d_L_law_124 rfl 3 rfl ?_
  refine V.iload_n F d_L_law_125 rfl 0 rfl ?_
  refine V.iconst F d_L_law_126 (v := nI (3)) (by decide) ?_
  refine V.iaddN F d_L_law_127 ?_
  refine V.sld (i := (i) + (3)) F d_L_law_128 hX hbl hbA (by omega) (by omega) rfl ?_
  refine V.aload_n F d_L_law_129 rfl 3 rfl ?_
  refine V.iload_n F d_L_law_130 rfl 0 rfl ?_
  refine V.iconst F d_L_law_131 (v := nI (4)) (by decide) ?_
  refine V.iaddN F d_L_law_132 ?_
  refine V.sld (i := (i) + (4)) F d_L_law_133 hX hbl hbA (by omega) (by omega) rfl ?_
  refine V.i2l F d_L_law_134 (v := (xs ((i) + (4))).toInt64) rfl ?_
  refine V.bipush F d_L_law_135 (v := nI (32)) (by decide) ?_
  refine V.lshl F d_L_law_137 (v := ((xs ((i) + (4))).toInt64) <<< ((nI (32)).toInt64 &&& 63)) rfl ?_
  refine V.aload_n F d_L_law_138 rfl 3 rfl ?_
  refine V.iload_n F d_L_law_139 rfl 0 rfl ?_
  refine V.iconst F d_L_law_140 (v := nI (5)) (by decide) ?_
  refine V.iaddN F d_L_law_141 ?_
  refine V.sld (i := (i) + (5)) F d_L_law_142 hX hbl hbA (by omega) (by omega) rfl ?_
  refine V.i2l F d_L_law_143 (v := (xs ((i) + (5))).toInt64) rfl ?_
  refine V.ldc2 F d_L_law_144 (v := 4294967295) lk_L_18 ?_
  refine V.land F d_L_law_147 (v := ((xs ((i) + (5))).toInt64) &&& (4294967295)) rfl ?_
  refine V.lor F d_L_law_148 (v := (((xs ((i) + (4))).toInt64) <<< ((nI (32)).toInt64 &&& 63)) ||| (((xs ((i) + (5))).toInt64) &&& (4294967295))) rfl ?_
  refine V.aload_n F d_L_law_149 rfl 3 rfl ?_
  refine V.iload_n F d_L_law_150 rfl 0 rfl ?_
  refine V.bipush F d_L_law_151 (v := nI (6)) (by decide) ?_
  refine V.iaddN F d_L_law_153 ?_
  refine V.sld (i := (i) + (6)) F d_L_law_154 hX hbl hbA (by omega) (by omega) rfl ?_
  refine V.i2l F d_L_law_155 (v := (xs ((i) + (6))).toInt64) rfl ?_
  refine V.bipush F d_L_law_156 (v := nI (32)) (by decide) ?_
  refine V.lshl F d_L_law_158 (v := ((xs ((i) + (6))).toInt64) <<< ((nI (32)).toInt64 &&& 63)) rfl ?_
  refine V.aload_n F d_L_law_159 rfl 3 rfl ?_
  refine V.iload_n F d_L_law_160 rfl 0 rfl ?_
  refine V.bipush F d_L_law_161 (v := nI (7)) (by decide) ?_
  refine V.iaddN F d_L_law_163 ?_
  refine V.sld (i := (i) + (7)) F d_L_law_164 hX hbl hbA (by omega) (by omega) rfl ?_
  refine V.i2l F d_L_law_165 (v := (xs ((i) + (7))).toInt64) rfl ?_
  refine V.ldc2 F d_L_law_166 (v := 4294967295) lk_L_18 ?_
  refine V.land F d_L_law_169 (v := ((xs ((i) + (7))).toInt64) &&& (4294967295)) rfl ?_
  refine V.lor F d_L_law_170 (v := (((xs ((i) + (6))).toInt64) <<< ((nI (32)).toInt64 &&& 63)) ||| (((xs ((i) + (7))).toInt64) &&& (4294967295))) rfl ?_
  obtain ⟨p1, p2, hc, hm, hrel⟩ := both_tell l D hR (xs ((i) + (1))) (xs ((i) + (2))) (xs ((i) + (3))) ((((xs ((i) + (4))).toInt64) <<< ((nI (32)).toInt64 &&& 63)) ||| (((xs ((i) + (5))).toInt64) &&& (4294967295))) ((((xs ((i) + (6))).toInt64) <<< ((nI (32)).toInt64 &&& 63)) ||| (((xs ((i) + (7))).toInt64) &&& (4294967295)))
  obtain ⟨f1, hq1⟩ := rel_T hR
  obtain ⟨f2, hq2⟩ := rel_M hR
  refine V.callVI (As := [.int (xs ((i) + (1))), .int (xs ((i) + (2))), .int (xs ((i) + (3))), .long ((((xs ((i) + (4))).toInt64) <<< ((nI (32)).toInt64 &&& 63)) ||| (((xs ((i) + (5))).toInt64) &&& (4294967295))), .long ((((xs ((i) + (6))).toInt64) <<< ((nI (32)).toInt64 &&& 63)) ||| (((xs ((i) + (7))).toInt64) &&& (4294967295)))]) (rest := []) F hc d_L_law_171 sv_L_20 im_y_T_tell sl_y_T_tell [] u2 rfl 0 (ap_l hq1) rfl rfl rfl rfl (Nat.le_of_ble_eq_true rfl) ⟨rfl, rfl, (Nat.le_of_ble_eq_true rfl), (Nat.le_of_ble_eq_true rfl)⟩ ⟨by show _ ≤ 600000; omega, by show _ ≤ 7302250; omega⟩ (fun r1 v1 h1 => ?_)
  refine V.ws_eq (ws2 := v1 ++ u2) rfl ?_
  refine V.aload_n F d_L_law_174 rfl 1 rfl ?_
  refine V.aload_n F d_L_law_175 rfl 3 rfl ?_
  refine V.iload_n F d_L_law_176 rfl 0 rfl ?_
  refine V.iconst F d_L_law_177 (v := nI (1)) (by decide) ?_
  refine V.iaddN F d_L_law_178 ?_
  refine V.sld (i := (i) + (1)) F d_L_law_179 hX hbl hbA (by omega) (by omega) rfl ?_
  refine V.aload_n F d_L_law_180 rfl 3 rfl ?_
  refine V.iload_n F d_L_law_181 rfl 0 rfl ?_
  refine V.iconst F d_L_law_182 (v := nI (2)) (by decide) ?_
  refine V.iaddN F d_L_law_183 ?_
  refine V.sld (i := (i) + (2)) F d_L_law_184 hX hbl hbA (by omega) (by omega) rfl ?_
  refine V.aload_n F d_L_law_185 rfl 3 rfl ?_
  refine V.iload_n F d_L_law_186 rfl 0 rfl ?_
  refine V.iconst F d_L_law_187 (v := nI (3)) (by decide) ?_
  refine V.iaddN F d_L_law_188 ?_
  refine V.sld (i := (i) + (3)) F d_L_law_189 hX hbl hbA (by omega) (by omega) rfl ?_
  refine V.aload_n F d_L_law_190 rfl 3 rfl ?_
  refine V.iload_n F d_L_law_191 rfl 0 rfl ?_
  refine V.iconst F d_L_law_192 (v := nI (4)) (by decide) ?_
  refine V.iaddN F d_L_law_193 ?_
  refine V.sld (i := (i) + (4)) F d_L_law_194 hX hbl hbA (by omega) (by omega) rfl ?_
  refine V.i2l F d_L_law_195 (v := (xs ((i) + (4))).toInt64) rfl ?_
  refine V.bipush F d_L_law_196 (v := nI (32)) (by decide) ?_
  refine V.lshl F d_L_law_198 (v := ((xs ((i) + (4))).toInt64) <<< ((nI (32)).toInt64 &&& 63)) rfl ?_
  refine V.aload_n F d_L_law_199 rfl 3 rfl ?_
  refine V.iload_n F d_L_law_200 rfl 0 rfl ?_
  refine V.iconst F d_L_law_201 (v := nI (5)) (by decide) ?_
  refine V.iaddN F d_L_law_202 ?_
  refine V.sld (i := (i) + (5)) F d_L_law_203 hX hbl hbA (by omega) (by omega) rfl ?_
  refine V.i2l F d_L_law_204 (v := (xs ((i) + (5))).toInt64) rfl ?_
  refine V.ldc2 F d_L_law_205 (v := 4294967295) lk_L_18 ?_
  refine V.land F d_L_law_208 (v := ((xs ((i) + (5))).toInt64) &&& (4294967295)) rfl ?_
  refine V.lor F d_L_law_209 (v := (((xs ((i) + (4))).toInt64) <<< ((nI (32)).toInt64 &&& 63)) ||| (((xs ((i) + (5))).toInt64) &&& (4294967295))) rfl ?_
  refine V.aload_n F d_L_law_210 rfl 3 rfl ?_
  refine V.iload_n F d_L_law_211 rfl 0 rfl ?_
  refine V.bipush F d_L_law_212 (v := nI (6)) (by decide) ?_
  refine V.iaddN F d_L_law_214 ?_
  refine V.sld (i := (i) + (6)) F d_L_law_215 hX hbl hbA (by omega) (by omega) rfl ?_
  refine V.i2l F d_L_law_216 (v := (xs ((i) + (6))).toInt64) rfl ?_
  refine V.bipush F d_L_law_217 (v := nI (32)) (by decide) ?_
  refine V.lshl F d_L_law_219 (v := ((xs ((i) + (6))).toInt64) <<< ((nI (32)).toInt64 &&& 63)) rfl ?_
  refine V.aload_n F d_L_law_220 rfl 3 rfl ?_
  refine V.iload_n F d_L_law_221 rfl 0 rfl ?_
  refine V.bipush F d_L_law_222 (v := nI (7)) (by decide) ?_
  refine V.iaddN F d_L_law_224 ?_
  refine V.sld (i := (i) + (7)) F d_L_law_225 hX hbl hbA (by omega) (by omega) rfl ?_
  refine V.i2l F d_L_law_226 (v := (xs ((i) + (7))).toInt64) rfl ?_
  refine V.ldc2 F d_L_law_227 (v := 4294967295) lk_L_18 ?_
  refine V.land F d_L_law_230 (v := ((xs ((i) + (7))).toInt64) &&& (4294967295)) rfl ?_
  refine V.lor F d_L_law_231 (v := (((xs ((i) + (6))).toInt64) <<< ((nI (32)).toInt64 &&& 63)) ||| (((xs ((i) + (7))).toInt64) &&& (4294967295))) rfl ?_
  refine V.callVI (As := [.int (xs ((i) + (1))), .int (xs ((i) + (2))), .int (xs ((i) + (3))), .long ((((xs ((i) + (4))).toInt64) <<< ((nI (32)).toInt64 &&& 63)) ||| (((xs ((i) + (5))).toInt64) &&& (4294967295))), .long ((((xs ((i) + (6))).toInt64) <<< ((nI (32)).toInt64 &&& 63)) ||| (((xs ((i) + (7))).toInt64) &&& (4294967295)))]) (rest := [.int (r1)]) F hm d_L_law_232 sv_L_24 im_y_M_tell sl_y_M_tell v1 [] (by rw [List.append_nil]) v1.length (ap_r hq2) rfl rfl rfl rfl (Nat.le_of_ble_eq_true rfl) ⟨rfl, rfl, (Nat.le_of_ble_eq_true rfl), (Nat.le_of_ble_eq_true rfl)⟩ ⟨by show _ ≤ 600000; omega, by show _ ≤ 7302250; omega⟩ (fun r2 v2 h2 => ?_)
  refine V.ws_eq (ws2 := v1 ++ v2) (by rw [List.append_nil]) ?_
  obtain ⟨e9, hR2⟩ := hrel r1 r2 v1 v2 h1 h2
  refine V.icmp_eq (x := r1) (y := r2) (tgt := 818) F d_L_law_235 (by decide) (fun c235 => ?_) (fun c235 => ?_)
  · skip
    refine V.iincN (k := 8) (lv2 := [(3, .int (nI (i + 8))), (2, .ref (mo 0)), (1, .ref (ad 0)), (0, .ref (b))]) F d_L_law_818 0 rfl (by decide) (by decide) rfl ?_
    refine V.goto (tgt := 18) F d_L_law_821 (by decide) ?_
    refine V.widen (k := 40 + (i + 8)) (n := 110000 + 50 * (i + 8)) (by omega) (by omega) ?_
    exact kk v1 v2 hR2
  · skip
    exact absurd e9 c235

set_option maxHeartbeats 4000000 in
set_option maxRecDepth 100000 in
theorem law_correct {p : Program} {l : Launch} {e : Env} {s : State} {m : MethodId} {below : List Frame} {meth : Method} {c : Code} {D : va_G} {ct : Nat → ClassId} {ad mo : Nat → Nat} {b L : Nat} {xs : Nat → Int32} (hL : L ≤ 4096) (F : Fx p m meth c code 4 s #[Value.ref b] R_L D (tyL ct) (fun q : Nat => s.heap.size ≤ q)) (hX : va_X b L xs s s.heap) (hbl : b < s.heap.size) (hbA : ¬ (fun q : Nat => s.heap.size ≤ q) b) {i : Nat} {u1 u2 : va_W} (hi : i + 8 ≤ L) (hR : Rel ct ad mo u1 u2) (kk : ∀ v1 v2, Rel ct ad mo v1 v2 → V p l e room_1 s m #[Value.ref b] below meth c D (fun q : Nat => s.heap.size ≤ q) 4 (40 + (i + 8)) (110000 + 50 * (i + 8)) (lw_Z below #[Value.ref b] s) (v1 ++ v2) [(3, .int (nI (i + 8))), (2, .ref (mo 0)), (1, .ref (ad 0)), (0, .ref (b))] 18 []) : V p l e room_1 s m #[Value.ref b] below meth c D (fun q : Nat => s.heap.size ≤ q) 4 (40 + i) (110000 + 50 * i) (lw_Z below #[Value.ref b] s) (u1 ++ u2) [(3, .int (nI (i))), (2, .ref (mo 0)), (1, .ref (ad 0)), (0, .ref (b))] 240 [] := by
  refine V.aload_n F d_L_law_240 rfl 2 rfl ?_
  refine V.aload_n F d_L_law_241 rfl 3 rfl ?_
  refine V.iload_n F d_L_law_242 rfl 0 rfl ?_
  refine V.iconst F d_L_law_243 (v := nI (1)) (by decide) ?_
  refine V.iaddN F d_L_law_244 ?_
  refine V.sld (i := (i) + (1)) F d_L_law_245 hX hbl hbA (by omega) (by omega) rfl ?_
  refine V.aload_n F d_L_law_246 rfl 3 rfl ?_
  refine V.iload_n F d_L_law_247 rfl 0 rfl ?_
  refine V.iconst F d_L_law_248 (v := nI (2)) (by decide) ?_
  refine V.iaddN F d_L_law_249 ?_
  refine V.sld (i := (i) + (2)) F d_L_law_250 hX hbl hbA (by omega) (by omega) rfl ?_
  refine V.aload_n F d_L_law_251 rfl 3 rfl ?_
  refine V.iload_n F d_L_law_252 rfl 0 rfl ?_
  refine V.iconst F d_L_law_253 (v := nI (3)) (by decide) ?_
  refine V.iaddN F d_L_law_254 ?_
  refine V.sld (i := (i) + (3)) F d_L_law_255 hX hbl hbA (by omega) (by omega) rfl ?_
  refine V.i2l F d_L_law_256 (v := (xs ((i) + (3))).toInt64) rfl ?_
  refine V.bipush F d_L_law_257 (v := nI (32)) (by decide) ?_
  refine V.lshl F d_L_law_259 (v := ((xs ((i) + (3))).toInt64) <<< ((nI (32)).toInt64 &&& 63)) rfl ?_
  refine V.aload_n F d_L_law_260 rfl 3 rfl ?_
  refine V.iload_n F d_L_law_261 rfl 0 rfl ?_
  refine V.iconst F d_L_law_262 (v := nI (4)) (by decide) ?_
  refine V.iaddN F d_L_law_263 ?_
  refine V.sld (i := (i) + (4)) F d_L_law_264 hX hbl hbA (by omega) (by omega) rfl ?_
  refine V.i2l F d_L_law_265 (v := (xs ((i) + (4))).toInt64) rfl ?_
  refine V.ldc2 F d_L_law_266 (v := 4294967295) lk_L_18 ?_
  refine V.land F d_L_law_269 (v := ((xs ((i) + (4))).toInt64) &&& (4294967295)) rfl ?_
  refine V.lor F d_L_law_270 (v := (((xs ((i) + (3))).toInt64) <<< ((nI (32)).toInt64 &&& 63)) ||| (((xs ((i) + (4))).toInt64) &&& (4294967295))) rfl ?_
  obtain ⟨p1, p2, hc, hm, hrel⟩ := both_correct l D hR (xs ((i) + (1))) (xs ((i) + (2))) ((((xs ((i) + (3))).toInt64) <<< ((nI (32)).toInt64 &&& 63)) ||| (((xs ((i) + (4))).toInt64) &&& (4294967295)))
  obtain ⟨f1, hq1⟩ := rel_T hR
  obtain ⟨f2, hq2⟩ := rel_M hR
  refine V.callVI (As := [.int (xs ((i) + (1))), .int (xs ((i) + (2))), .long ((((xs ((i) + (3))).toInt64) <<< ((nI (32)).toInt64 &&& 63)) ||| (((xs ((i) + (4))).toInt64) &&& (4294967295)))]) (rest := []) F hc d_L_law_271 sv_L_25 im_y_T_correct sl_y_T_correct [] u2 rfl 0 (ap_l hq1) rfl rfl rfl rfl (Nat.le_of_ble_eq_true rfl) ⟨rfl, rfl, (Nat.le_of_ble_eq_true rfl), (Nat.le_of_ble_eq_true rfl)⟩ ⟨by show _ ≤ 600000; omega, by show _ ≤ 7302250; omega⟩ (fun r1 v1 h1 => ?_)
  refine V.ws_eq (ws2 := v1 ++ u2) rfl ?_
  refine V.aload_n F d_L_law_274 rfl 1 rfl ?_
  refine V.aload_n F d_L_law_275 rfl 3 rfl ?_
  refine V.iload_n F d_L_law_276 rfl 0 rfl ?_
  refine V.iconst F d_L_law_277 (v := nI (1)) (by decide) ?_
  refine V.iaddN F d_L_law_278 ?_
  refine V.sld (i := (i) + (1)) F d_L_law_279 hX hbl hbA (by omega) (by omega) rfl ?_
  refine V.aload_n F d_L_law_280 rfl 3 rfl ?_
  refine V.iload_n F d_L_law_281 rfl 0 rfl ?_
  refine V.iconst F d_L_law_282 (v := nI (2)) (by decide) ?_
  refine V.iaddN F d_L_law_283 ?_
  refine V.sld (i := (i) + (2)) F d_L_law_284 hX hbl hbA (by omega) (by omega) rfl ?_
  refine V.aload_n F d_L_law_285 rfl 3 rfl ?_
  refine V.iload_n F d_L_law_286 rfl 0 rfl ?_
  refine V.iconst F d_L_law_287 (v := nI (3)) (by decide) ?_
  refine V.iaddN F d_L_law_288 ?_
  refine V.sld (i := (i) + (3)) F d_L_law_289 hX hbl hbA (by omega) (by omega) rfl ?_
  refine V.i2l F d_L_law_290 (v := (xs ((i) + (3))).toInt64) rfl ?_
  refine V.bipush F d_L_law_291 (v := nI (32)) (by decide) ?_
  refine V.lshl F d_L_law_293 (v := ((xs ((i) + (3))).toInt64) <<< ((nI (32)).toInt64 &&& 63)) rfl ?_
  refine V.aload_n F d_L_law_294 rfl 3 rfl ?_
  refine V.iload_n F d_L_law_295 rfl 0 rfl ?_
  refine V.iconst F d_L_law_296 (v := nI (4)) (by decide) ?_
  refine V.iaddN F d_L_law_297 ?_
  refine V.sld (i := (i) + (4)) F d_L_law_298 hX hbl hbA (by omega) (by omega) rfl ?_
  refine V.i2l F d_L_law_299 (v := (xs ((i) + (4))).toInt64) rfl ?_
  refine V.ldc2 F d_L_law_300 (v := 4294967295) lk_L_18 ?_
  refine V.land F d_L_law_303 (v := ((xs ((i) + (4))).toInt64) &&& (4294967295)) rfl ?_
  refine V.lor F d_L_law_304 (v := (((xs ((i) + (3))).toInt64) <<< ((nI (32)).toInt64 &&& 63)) ||| (((xs ((i) + (4))).toInt64) &&& (4294967295))) rfl ?_
  refine V.callVI (As := [.int (xs ((i) + (1))), .int (xs ((i) + (2))), .long ((((xs ((i) + (3))).toInt64) <<< ((nI (32)).toInt64 &&& 63)) ||| (((xs ((i) + (4))).toInt64) &&& (4294967295)))]) (rest := [.int (r1)]) F hm d_L_law_305 sv_L_29 im_y_M_correct sl_y_M_correct v1 [] (by rw [List.append_nil]) v1.length (ap_r hq2) rfl rfl rfl rfl (Nat.le_of_ble_eq_true rfl) ⟨rfl, rfl, (Nat.le_of_ble_eq_true rfl), (Nat.le_of_ble_eq_true rfl)⟩ ⟨by show _ ≤ 600000; omega, by show _ ≤ 7302250; omega⟩ (fun r2 v2 h2 => ?_)
  refine V.ws_eq (ws2 := v1 ++ v2) (by rw [List.append_nil]) ?_
  obtain ⟨e9, hR2⟩ := hrel r1 r2 v1 v2 h1 h2
  refine V.icmp_eq (x := r1) (y := r2) (tgt := 818) F d_L_law_308 (by decide) (fun c308 => ?_) (fun c308 => ?_)
  · skip
    refine V.iincN (k := 8) (lv2 := [(3, .int (nI (i + 8))), (2, .ref (mo 0)), (1, .ref (ad 0)), (0, .ref (b))]) F d_L_law_818 0 rfl (by decide) (by decide) rfl ?_
    refine V.goto (tgt := 18) F d_L_law_821 (by decide) ?_
    refine V.widen (k := 40 + (i + 8)) (n := 110000 + 50 * (i + 8)) (by omega) (by omega) ?_
    exact kk v1 v2 hR2
  · skip
    exact absurd e9 c308

set_option maxHeartbeats 4000000 in
set_option maxRecDepth 100000 in
theorem law_join {p : Program} {l : Launch} {e : Env} {s : State} {m : MethodId} {below : List Frame} {meth : Method} {c : Code} {D : va_G} {ct : Nat → ClassId} {ad mo : Nat → Nat} {b L : Nat} {xs : Nat → Int32} (hL : L ≤ 4096) (F : Fx p m meth c code 4 s #[Value.ref b] R_L D (tyL ct) (fun q : Nat => s.heap.size ≤ q)) (hX : va_X b L xs s s.heap) (hbl : b < s.heap.size) (hbA : ¬ (fun q : Nat => s.heap.size ≤ q) b) {i : Nat} {u1 u2 : va_W} (hi : i + 8 ≤ L) (hR : Rel ct ad mo u1 u2) (kk : ∀ v1 v2, Rel ct ad mo v1 v2 → V p l e room_1 s m #[Value.ref b] below meth c D (fun q : Nat => s.heap.size ≤ q) 4 (40 + (i + 8)) (110000 + 50 * (i + 8)) (lw_Z below #[Value.ref b] s) (v1 ++ v2) [(3, .int (nI (i + 8))), (2, .ref (mo 0)), (1, .ref (ad 0)), (0, .ref (b))] 18 []) : V p l e room_1 s m #[Value.ref b] below meth c D (fun q : Nat => s.heap.size ≤ q) 4 (40 + i) (110000 + 50 * i) (lw_Z below #[Value.ref b] s) (u1 ++ u2) [(3, .int (nI (i))), (2, .ref (mo 0)), (1, .ref (ad 0)), (0, .ref (b))] 313 [] := by
  refine V.aload_n F d_L_law_313 rfl 2 rfl ?_
  refine V.aload_n F d_L_law_314 rfl 3 rfl ?_
  refine V.iload_n F d_L_law_315 rfl 0 rfl ?_
  refine V.iconst F d_L_law_316 (v := nI (1)) (by decide) ?_
  refine V.iaddN F d_L_law_317 ?_
  refine V.sld (i := (i) + (1)) F d_L_law_318 hX hbl hbA (by omega) (by omega) rfl ?_
  refine V.aload_n F d_L_law_319 rfl 3 rfl ?_
  refine V.iload_n F d_L_law_320 rfl 0 rfl ?_
  refine V.iconst F d_L_law_321 (v := nI (2)) (by decide) ?_
  refine V.iaddN F d_L_law_322 ?_
  refine V.sld (i := (i) + (2)) F d_L_law_323 hX hbl hbA (by omega) (by omega) rfl ?_
  obtain ⟨p1, p2, hc, hm, hrel⟩ := both_join l D hR (xs ((i) + (1))) (xs ((i) + (2)))
  obtain ⟨f1, hq1⟩ := rel_T hR
  obtain ⟨f2, hq2⟩ := rel_M hR
  refine V.callVI (As := [.int (xs ((i) + (1))), .int (xs ((i) + (2)))]) (rest := []) F hc d_L_law_324 sv_L_30 im_y_T_join sl_y_T_join [] u2 rfl 0 (ap_l hq1) rfl rfl rfl rfl (Nat.le_of_ble_eq_true rfl) ⟨rfl, rfl, (Nat.le_of_ble_eq_true rfl), (Nat.le_of_ble_eq_true rfl)⟩ ⟨by show _ ≤ 600000; omega, by show _ ≤ 7302250; omega⟩ (fun r1 v1 h1 => ?_)
  refine V.ws_eq (ws2 := v1 ++ u2) rfl ?_
  refine V.aload_n F d_L_law_327 rfl 1 rfl ?_
  refine V.aload_n F d_L_law_328 rfl 3 rfl ?_
  refine V.iload_n F d_L_law_329 rfl 0 rfl ?_
  refine V.iconst F d_L_law_330 (v := nI (1)) (by decide) ?_
  refine V.iaddN F d_L_law_331 ?_
  refine V.sld (i := (i) + (1)) F d_L_law_332 hX hbl hbA (by omega) (by omega) rfl ?_
  refine V.aload_n F d_L_law_333 rfl 3 rfl ?_
  refine V.iload_n F d_L_law_334 rfl 0 rfl ?_
  refine V.iconst F d_L_law_335 (v := nI (2)) (by decide) ?_
  refine V.iaddN F d_L_law_336 ?_
  refine V.sld (i := (i) + (2)) F d_L_law_337 hX hbl hbA (by omega) (by omega) rfl ?_
  refine V.callVI (As := [.int (xs ((i) + (1))), .int (xs ((i) + (2)))]) (rest := [.int (r1)]) F hm d_L_law_338 sv_L_34 im_y_M_join sl_y_M_join v1 [] (by rw [List.append_nil]) v1.length (ap_r hq2) rfl rfl rfl rfl (Nat.le_of_ble_eq_true rfl) ⟨rfl, rfl, (Nat.le_of_ble_eq_true rfl), (Nat.le_of_ble_eq_true rfl)⟩ ⟨by show _ ≤ 600000; omega, by show _ ≤ 7302250; omega⟩ (fun r2 v2 h2 => ?_)
  refine V.ws_eq (ws2 := v1 ++ v2) (by rw [List.append_nil]) ?_
  obtain ⟨e9, hR2⟩ := hrel r1 r2 v1 v2 h1 h2
  refine V.icmp_eq (x := r1) (y := r2) (tgt := 818) F d_L_law_341 (by decide) (fun c341 => ?_) (fun c341 => ?_)
  · skip
    refine V.iincN (k := 8) (lv2 := [(3, .int (nI (i + 8))), (2, .ref (mo 0)), (1, .ref (ad 0)), (0, .ref (b))]) F d_L_law_818 0 rfl (by decide) (by decide) rfl ?_
    refine V.goto (tgt := 18) F d_L_law_821 (by decide) ?_
    refine V.widen (k := 40 + (i + 8)) (n := 110000 + 50 * (i + 8)) (by omega) (by omega) ?_
    exact kk v1 v2 hR2
  · skip
    exact absurd e9 c341

set_option maxHeartbeats 4000000 in
set_option maxRecDepth 100000 in
theorem law_known {p : Program} {l : Launch} {e : Env} {s : State} {m : MethodId} {below : List Frame} {meth : Method} {c : Code} {D : va_G} {ct : Nat → ClassId} {ad mo : Nat → Nat} {b L : Nat} {xs : Nat → Int32} (hL : L ≤ 4096) (F : Fx p m meth c code 4 s #[Value.ref b] R_L D (tyL ct) (fun q : Nat => s.heap.size ≤ q)) (hX : va_X b L xs s s.heap) (hbl : b < s.heap.size) (hbA : ¬ (fun q : Nat => s.heap.size ≤ q) b) {i : Nat} {u1 u2 : va_W} (hi : i + 8 ≤ L) (hR : Rel ct ad mo u1 u2) (kk : ∀ v1 v2, Rel ct ad mo v1 v2 → V p l e room_1 s m #[Value.ref b] below meth c D (fun q : Nat => s.heap.size ≤ q) 4 (40 + (i + 8)) (110000 + 50 * (i + 8)) (lw_Z below #[Value.ref b] s) (v1 ++ v2) [(3, .int (nI (i + 8))), (2, .ref (mo 0)), (1, .ref (ad 0)), (0, .ref (b))] 18 []) : V p l e room_1 s m #[Value.ref b] below meth c D (fun q : Nat => s.heap.size ≤ q) 4 (40 + i) (110000 + 50 * i) (lw_Z below #[Value.ref b] s) (u1 ++ u2) [(3, .int (nI (i))), (2, .ref (mo 0)), (1, .ref (ad 0)), (0, .ref (b))] 346 [] := by
  refine V.aload_n F d_L_law_346 rfl 2 rfl ?_
  refine V.aload_n F d_L_law_347 rfl 3 rfl ?_
  refine V.iload_n F d_L_law_348 rfl 0 rfl ?_
  refine V.iconst F d_L_law_349 (v := nI (1)) (by decide) ?_
  refine V.iaddN F d_L_law_350 ?_
  refine V.sld (i := (i) + (1)) F d_L_law_351 hX hbl hbA (by omega) (by omega) rfl ?_
  refine V.aload_n F d_L_law_352 rfl 3 rfl ?_
  refine V.iload_n F d_L_law_353 rfl 0 rfl ?_
  refine V.iconst F d_L_law_354 (v := nI (2)) (by decide) ?_
  refine V.iaddN F d_L_law_355 ?_
  refine V.sld (i := (i) + (2)) F d_L_law_356 hX hbl hbA (by omega) (by omega) rfl ?_
  refine V.aload_n F d_L_law_357 rfl 3 rfl ?_
  refine V.iload_n F d_L_law_358 rfl 0 rfl ?_
  refine V.iconst F d_L_law_359 (v := nI (3)) (by decide) ?_
  refine V.iaddN F d_L_law_360 ?_
  refine V.sld (i := (i) + (3)) F d_L_law_361 hX hbl hbA (by omega) (by omega) rfl ?_
  refine V.aload_n F d_L_law_362 rfl 3 rfl ?_
  refine V.iload_n F d_L_law_363 rfl 0 rfl ?_
  refine V.iconst F d_L_law_364 (v := nI (4)) (by decide) ?_
  refine V.iaddN F d_L_law_365 ?_
  refine V.sld (i := (i) + (4)) F d_L_law_366 hX hbl hbA (by omega) (by omega) rfl ?_
  refine V.i2l F d_L_law_367 (v := (xs ((i) + (4))).toInt64) rfl ?_
  refine V.bipush F d_L_law_368 (v := nI (32)) (by decide) ?_
  refine V.lshl F d_L_law_370 (v := ((xs ((i) + (4))).toInt64) <<< ((nI (32)).toInt64 &&& 63)) rfl ?_
  refine V.aload_n F d_L_law_371 rfl 3 rfl ?_
  refine V.iload_n F d_L_law_372 rfl 0 rfl ?_
  refine V.iconst F d_L_law_373 (v := nI (5)) (by decide) ?_
  refine V.iaddN F d_L_law_374 ?_
  refine V.sld (i := (i) + (5)) F d_L_law_375 hX hbl hbA (by omega) (by omega) rfl ?_
  refine V.i2l F d_L_law_376 (v := (xs ((i) + (5))).toInt64) rfl ?_
  refine V.ldc2 F d_L_law_377 (v := 4294967295) lk_L_18 ?_
  refine V.land F d_L_law_380 (v := ((xs ((i) + (5))).toInt64) &&& (4294967295)) rfl ?_
  refine V.lor F d_L_law_381 (v := (((xs ((i) + (4))).toInt64) <<< ((nI (32)).toInt64 &&& 63)) ||| (((xs ((i) + (5))).toInt64) &&& (4294967295))) rfl ?_
  refine V.aload_n F d_L_law_382 rfl 3 rfl ?_
  refine V.iload_n F d_L_law_383 rfl 0 rfl ?_
  refine V.bipush F d_L_law_384 (v := nI (6)) (by decide) ?_
  refine V.iaddN F d_L_law_386 ?_
  refine V.sld (i := (i) + (6)) F d_L_law_387 hX hbl hbA (by omega) (by omega) rfl ?_
  refine V.i2l F d_L_law_388 (v := (xs ((i) + (6))).toInt64) rfl ?_
  refine V.bipush F d_L_law_389 (v := nI (32)) (by decide) ?_
  refine V.lshl F d_L_law_391 (v := ((xs ((i) + (6))).toInt64) <<< ((nI (32)).toInt64 &&& 63)) rfl ?_
  refine V.aload_n F d_L_law_392 rfl 3 rfl ?_
  refine V.iload_n F d_L_law_393 rfl 0 rfl ?_
  refine V.bipush F d_L_law_394 (v := nI (7)) (by decide) ?_
  refine V.iaddN F d_L_law_396 ?_
  refine V.sld (i := (i) + (7)) F d_L_law_397 hX hbl hbA (by omega) (by omega) rfl ?_
  refine V.i2l F d_L_law_398 (v := (xs ((i) + (7))).toInt64) rfl ?_
  refine V.ldc2 F d_L_law_399 (v := 4294967295) lk_L_18 ?_
  refine V.land F d_L_law_402 (v := ((xs ((i) + (7))).toInt64) &&& (4294967295)) rfl ?_
  refine V.lor F d_L_law_403 (v := (((xs ((i) + (6))).toInt64) <<< ((nI (32)).toInt64 &&& 63)) ||| (((xs ((i) + (7))).toInt64) &&& (4294967295))) rfl ?_
  obtain ⟨p1, p2, hc, hm, hrel⟩ := both_known l D hR (xs ((i) + (1))) (xs ((i) + (2))) (xs ((i) + (3))) ((((xs ((i) + (4))).toInt64) <<< ((nI (32)).toInt64 &&& 63)) ||| (((xs ((i) + (5))).toInt64) &&& (4294967295))) ((((xs ((i) + (6))).toInt64) <<< ((nI (32)).toInt64 &&& 63)) ||| (((xs ((i) + (7))).toInt64) &&& (4294967295)))
  obtain ⟨f1, hq1⟩ := rel_T hR
  obtain ⟨f2, hq2⟩ := rel_M hR
  refine V.callVL (As := [.int (xs ((i) + (1))), .int (xs ((i) + (2))), .int (xs ((i) + (3))), .long ((((xs ((i) + (4))).toInt64) <<< ((nI (32)).toInt64 &&& 63)) ||| (((xs ((i) + (5))).toInt64) &&& (4294967295))), .long ((((xs ((i) + (6))).toInt64) <<< ((nI (32)).toInt64 &&& 63)) ||| (((xs ((i) + (7))).toInt64) &&& (4294967295)))]) (rest := []) F hc d_L_law_404 sv_L_35 im_y_T_known sl_y_T_known [] u2 rfl 0 (ap_l hq1) rfl rfl rfl rfl (Nat.le_of_ble_eq_true rfl) ⟨rfl, rfl, (Nat.le_of_ble_eq_true rfl), (Nat.le_of_ble_eq_true rfl)⟩ ⟨by show _ ≤ 600000; omega, by show _ ≤ 7302250; omega⟩ (fun r1 v1 h1 => ?_)
  refine V.ws_eq (ws2 := v1 ++ u2) rfl ?_
  refine V.aload_n F d_L_law_407 rfl 1 rfl ?_
  refine V.aload_n F d_L_law_408 rfl 3 rfl ?_
  refine V.iload_n F d_L_law_409 rfl 0 rfl ?_
  refine V.iconst F d_L_law_410 (v := nI (1)) (by decide) ?_
  refine V.iaddN F d_L_law_411 ?_
  refine V.sld (i := (i) + (1)) F d_L_law_412 hX hbl hbA (by omega) (by omega) rfl ?_
  refine V.aload_n F d_L_law_413 rfl 3 rfl ?_
  refine V.iload_n F d_L_law_414 rfl 0 rfl ?_
  refine V.iconst F d_L_law_415 (v := nI (2)) (by decide) ?_
  refine V.iaddN F d_L_law_416 ?_
  refine V.sld (i := (i) + (2)) F d_L_law_417 hX hbl hbA (by omega) (by omega) rfl ?_
  refine V.aload_n F d_L_law_418 rfl 3 rfl ?_
  refine V.iload_n F d_L_law_419 rfl 0 rfl ?_
  refine V.iconst F d_L_law_420 (v := nI (3)) (by decide) ?_
  refine V.iaddN F d_L_law_421 ?_
  refine V.sld (i := (i) + (3)) F d_L_law_422 hX hbl hbA (by omega) (by omega) rfl ?_
  refine V.aload_n F d_L_law_423 rfl 3 rfl ?_
  refine V.iload_n F d_L_law_424 rfl 0 rfl ?_
  refine V.iconst F d_L_law_425 (v := nI (4)) (by decide) ?_
  refine V.iaddN F d_L_law_426 ?_
  refine V.sld (i := (i) + (4)) F d_L_law_427 hX hbl hbA (by omega) (by omega) rfl ?_
  refine V.i2l F d_L_law_428 (v := (xs ((i) + (4))).toInt64) rfl ?_
  refine V.bipush F d_L_law_429 (v := nI (32)) (by decide) ?_
  refine V.lshl F d_L_law_431 (v := ((xs ((i) + (4))).toInt64) <<< ((nI (32)).toInt64 &&& 63)) rfl ?_
  refine V.aload_n F d_L_law_432 rfl 3 rfl ?_
  refine V.iload_n F d_L_law_433 rfl 0 rfl ?_
  refine V.iconst F d_L_law_434 (v := nI (5)) (by decide) ?_
  refine V.iaddN F d_L_law_435 ?_
  refine V.sld (i := (i) + (5)) F d_L_law_436 hX hbl hbA (by omega) (by omega) rfl ?_
  refine V.i2l F d_L_law_437 (v := (xs ((i) + (5))).toInt64) rfl ?_
  refine V.ldc2 F d_L_law_438 (v := 4294967295) lk_L_18 ?_
  refine V.land F d_L_law_441 (v := ((xs ((i) + (5))).toInt64) &&& (4294967295)) rfl ?_
  refine V.lor F d_L_law_442 (v := (((xs ((i) + (4))).toInt64) <<< ((nI (32)).toInt64 &&& 63)) ||| (((xs ((i) + (5))).toInt64) &&& (4294967295))) rfl ?_
  refine V.aload_n F d_L_law_443 rfl 3 rfl ?_
  refine V.iload_n F d_L_law_444 rfl 0 rfl ?_
  refine V.bipush F d_L_law_445 (v := nI (6)) (by decide) ?_
  refine V.iaddN F d_L_law_447 ?_
  refine V.sld (i := (i) + (6)) F d_L_law_448 hX hbl hbA (by omega) (by omega) rfl ?_
  refine V.i2l F d_L_law_449 (v := (xs ((i) + (6))).toInt64) rfl ?_
  refine V.bipush F d_L_law_450 (v := nI (32)) (by decide) ?_
  refine V.lshl F d_L_law_452 (v := ((xs ((i) + (6))).toInt64) <<< ((nI (32)).toInt64 &&& 63)) rfl ?_
  refine V.aload_n F d_L_law_453 rfl 3 rfl ?_
  refine V.iload_n F d_L_law_454 rfl 0 rfl ?_
  refine V.bipush F d_L_law_455 (v := nI (7)) (by decide) ?_
  refine V.iaddN F d_L_law_457 ?_
  refine V.sld (i := (i) + (7)) F d_L_law_458 hX hbl hbA (by omega) (by omega) rfl ?_
  refine V.i2l F d_L_law_459 (v := (xs ((i) + (7))).toInt64) rfl ?_
  refine V.ldc2 F d_L_law_460 (v := 4294967295) lk_L_18 ?_
  refine V.land F d_L_law_463 (v := ((xs ((i) + (7))).toInt64) &&& (4294967295)) rfl ?_
  refine V.lor F d_L_law_464 (v := (((xs ((i) + (6))).toInt64) <<< ((nI (32)).toInt64 &&& 63)) ||| (((xs ((i) + (7))).toInt64) &&& (4294967295))) rfl ?_
  refine V.callVL (As := [.int (xs ((i) + (1))), .int (xs ((i) + (2))), .int (xs ((i) + (3))), .long ((((xs ((i) + (4))).toInt64) <<< ((nI (32)).toInt64 &&& 63)) ||| (((xs ((i) + (5))).toInt64) &&& (4294967295))), .long ((((xs ((i) + (6))).toInt64) <<< ((nI (32)).toInt64 &&& 63)) ||| (((xs ((i) + (7))).toInt64) &&& (4294967295)))]) (rest := [.long (r1)]) F hm d_L_law_465 sv_L_39 im_y_M_known sl_y_M_known v1 [] (by rw [List.append_nil]) v1.length (ap_r hq2) rfl rfl rfl rfl (Nat.le_of_ble_eq_true rfl) ⟨rfl, rfl, (Nat.le_of_ble_eq_true rfl), (Nat.le_of_ble_eq_true rfl)⟩ ⟨by show _ ≤ 600000; omega, by show _ ≤ 7302250; omega⟩ (fun r2 v2 h2 => ?_)
  refine V.ws_eq (ws2 := v1 ++ v2) (by rw [List.append_nil]) ?_
  obtain ⟨e9, hR2⟩ := hrel r1 r2 v1 v2 h1 h2
  refine V.lcmp_eq (tgt := 818) F d_L_law_468 d_L_law_469 (by decide) (fun c468 => ?_) (fun c468 => ?_)
  · skip
    refine V.iincN (k := 8) (lv2 := [(3, .int (nI (i + 8))), (2, .ref (mo 0)), (1, .ref (ad 0)), (0, .ref (b))]) F d_L_law_818 0 rfl (by decide) (by decide) rfl ?_
    refine V.goto (tgt := 18) F d_L_law_821 (by decide) ?_
    refine V.widen (k := 40 + (i + 8)) (n := 110000 + 50 * (i + 8)) (by omega) (by omega) ?_
    exact kk v1 v2 hR2
  · skip
    exact absurd e9 c468

set_option maxHeartbeats 4000000 in
set_option maxRecDepth 100000 in
theorem law_conflict {p : Program} {l : Launch} {e : Env} {s : State} {m : MethodId} {below : List Frame} {meth : Method} {c : Code} {D : va_G} {ct : Nat → ClassId} {ad mo : Nat → Nat} {b L : Nat} {xs : Nat → Int32} (hL : L ≤ 4096) (F : Fx p m meth c code 4 s #[Value.ref b] R_L D (tyL ct) (fun q : Nat => s.heap.size ≤ q)) (hX : va_X b L xs s s.heap) (hbl : b < s.heap.size) (hbA : ¬ (fun q : Nat => s.heap.size ≤ q) b) {i : Nat} {u1 u2 : va_W} (hi : i + 8 ≤ L) (hR : Rel ct ad mo u1 u2) (kk : ∀ v1 v2, Rel ct ad mo v1 v2 → V p l e room_1 s m #[Value.ref b] below meth c D (fun q : Nat => s.heap.size ≤ q) 4 (40 + (i + 8)) (110000 + 50 * (i + 8)) (lw_Z below #[Value.ref b] s) (v1 ++ v2) [(3, .int (nI (i + 8))), (2, .ref (mo 0)), (1, .ref (ad 0)), (0, .ref (b))] 18 []) : V p l e room_1 s m #[Value.ref b] below meth c D (fun q : Nat => s.heap.size ≤ q) 4 (40 + i) (110000 + 50 * i) (lw_Z below #[Value.ref b] s) (u1 ++ u2) [(3, .int (nI (i))), (2, .ref (mo 0)), (1, .ref (ad 0)), (0, .ref (b))] 474 [] := by
  refine V.aload_n F d_L_law_474 rfl 2 rfl ?_
  refine V.aload_n F d_L_law_475 rfl 3 rfl ?_
  refine V.iload_n F d_L_law_476 rfl 0 rfl ?_
  refine V.iconst F d_L_law_477 (v := nI (1)) (by decide) ?_
  refine V.iaddN F d_L_law_478 ?_
  refine V.sld (i := (i) + (1)) F d_L_law_479 hX hbl hbA (by omega) (by omega) rfl ?_
  refine V.aload_n F d_L_law_480 rfl 3 rfl ?_
  refine V.iload_n F d_L_law_481 rfl 0 rfl ?_
  refine V.iconst F d_L_law_482 (v := nI (2)) (by decide) ?_
  refine V.iaddN F d_L_law_483 ?_
  refine V.sld (i := (i) + (2)) F d_L_law_484 hX hbl hbA (by omega) (by omega) rfl ?_
  refine V.aload_n F d_L_law_485 rfl 3 rfl ?_
  refine V.iload_n F d_L_law_486 rfl 0 rfl ?_
  refine V.iconst F d_L_law_487 (v := nI (3)) (by decide) ?_
  refine V.iaddN F d_L_law_488 ?_
  refine V.sld (i := (i) + (3)) F d_L_law_489 hX hbl hbA (by omega) (by omega) rfl ?_
  obtain ⟨p1, p2, hc, hm, hrel⟩ := both_conflict l D hR (xs ((i) + (1))) (xs ((i) + (2))) (xs ((i) + (3)))
  obtain ⟨f1, hq1⟩ := rel_T hR
  obtain ⟨f2, hq2⟩ := rel_M hR
  refine V.callVI (As := [.int (xs ((i) + (1))), .int (xs ((i) + (2))), .int (xs ((i) + (3)))]) (rest := []) F hc d_L_law_490 sv_L_40 im_y_T_conflict sl_y_T_conflict [] u2 rfl 0 (ap_l hq1) rfl rfl rfl rfl (Nat.le_of_ble_eq_true rfl) ⟨rfl, rfl, (Nat.le_of_ble_eq_true rfl), (Nat.le_of_ble_eq_true rfl)⟩ ⟨by show _ ≤ 600000; omega, by show _ ≤ 7302250; omega⟩ (fun r1 v1 h1 => ?_)
  refine V.ws_eq (ws2 := v1 ++ u2) rfl ?_
  refine V.aload_n F d_L_law_493 rfl 1 rfl ?_
  refine V.aload_n F d_L_law_494 rfl 3 rfl ?_
  refine V.iload_n F d_L_law_495 rfl 0 rfl ?_
  refine V.iconst F d_L_law_496 (v := nI (1)) (by decide) ?_
  refine V.iaddN F d_L_law_497 ?_
  refine V.sld (i := (i) + (1)) F d_L_law_498 hX hbl hbA (by omega) (by omega) rfl ?_
  refine V.aload_n F d_L_law_499 rfl 3 rfl ?_
  refine V.iload_n F d_L_law_500 rfl 0 rfl ?_
  refine V.iconst F d_L_law_501 (v := nI (2)) (by decide) ?_
  refine V.iaddN F d_L_law_502 ?_
  refine V.sld (i := (i) + (2)) F d_L_law_503 hX hbl hbA (by omega) (by omega) rfl ?_
  refine V.aload_n F d_L_law_504 rfl 3 rfl ?_
  refine V.iload_n F d_L_law_505 rfl 0 rfl ?_
  refine V.iconst F d_L_law_506 (v := nI (3)) (by decide) ?_
  refine V.iaddN F d_L_law_507 ?_
  refine V.sld (i := (i) + (3)) F d_L_law_508 hX hbl hbA (by omega) (by omega) rfl ?_
  refine V.callVI (As := [.int (xs ((i) + (1))), .int (xs ((i) + (2))), .int (xs ((i) + (3)))]) (rest := [.int (r1)]) F hm d_L_law_509 sv_L_44 im_y_M_conflict sl_y_M_conflict v1 [] (by rw [List.append_nil]) v1.length (ap_r hq2) rfl rfl rfl rfl (Nat.le_of_ble_eq_true rfl) ⟨rfl, rfl, (Nat.le_of_ble_eq_true rfl), (Nat.le_of_ble_eq_true rfl)⟩ ⟨by show _ ≤ 600000; omega, by show _ ≤ 7302250; omega⟩ (fun r2 v2 h2 => ?_)
  refine V.ws_eq (ws2 := v1 ++ v2) (by rw [List.append_nil]) ?_
  obtain ⟨e9, hR2⟩ := hrel r1 r2 v1 v2 h1 h2
  refine V.icmp_eq (x := r1) (y := r2) (tgt := 818) F d_L_law_512 (by decide) (fun c512 => ?_) (fun c512 => ?_)
  · skip
    refine V.iincN (k := 8) (lv2 := [(3, .int (nI (i + 8))), (2, .ref (mo 0)), (1, .ref (ad 0)), (0, .ref (b))]) F d_L_law_818 0 rfl (by decide) (by decide) rfl ?_
    refine V.goto (tgt := 18) F d_L_law_821 (by decide) ?_
    refine V.widen (k := 40 + (i + 8)) (n := 110000 + 50 * (i + 8)) (by omega) (by omega) ?_
    exact kk v1 v2 hR2
  · skip
    exact absurd e9 c512

set_option maxHeartbeats 4000000 in
set_option maxRecDepth 100000 in
theorem law_settle {p : Program} {l : Launch} {e : Env} {s : State} {m : MethodId} {below : List Frame} {meth : Method} {c : Code} {D : va_G} {ct : Nat → ClassId} {ad mo : Nat → Nat} {b L : Nat} {xs : Nat → Int32} (hL : L ≤ 4096) (F : Fx p m meth c code 4 s #[Value.ref b] R_L D (tyL ct) (fun q : Nat => s.heap.size ≤ q)) (hX : va_X b L xs s s.heap) (hbl : b < s.heap.size) (hbA : ¬ (fun q : Nat => s.heap.size ≤ q) b) {i : Nat} {u1 u2 : va_W} (hi : i + 8 ≤ L) (hR : Rel ct ad mo u1 u2) (kk : ∀ v1 v2, Rel ct ad mo v1 v2 → V p l e room_1 s m #[Value.ref b] below meth c D (fun q : Nat => s.heap.size ≤ q) 4 (40 + (i + 8)) (110000 + 50 * (i + 8)) (lw_Z below #[Value.ref b] s) (v1 ++ v2) [(3, .int (nI (i + 8))), (2, .ref (mo 0)), (1, .ref (ad 0)), (0, .ref (b))] 18 []) : V p l e room_1 s m #[Value.ref b] below meth c D (fun q : Nat => s.heap.size ≤ q) 4 (40 + i) (110000 + 50 * i) (lw_Z below #[Value.ref b] s) (u1 ++ u2) [(3, .int (nI (i))), (2, .ref (mo 0)), (1, .ref (ad 0)), (0, .ref (b))] 517 [] := by
  refine V.aload_n F d_L_law_517 rfl 2 rfl ?_
  refine V.aload_n F d_L_law_518 rfl 3 rfl ?_
  refine V.iload_n F d_L_law_519 rfl 0 rfl ?_
  refine V.iconst F d_L_law_520 (v := nI (1)) (by decide) ?_
  refine V.iaddN F d_L_law_521 ?_
  refine V.sld (i := (i) + (1)) F d_L_law_522 hX hbl hbA (by omega) (by omega) rfl ?_
  refine V.aload_n F d_L_law_523 rfl 3 rfl ?_
  refine V.iload_n F d_L_law_524 rfl 0 rfl ?_
  refine V.iconst F d_L_law_525 (v := nI (2)) (by decide) ?_
  refine V.iaddN F d_L_law_526 ?_
  refine V.sld (i := (i) + (2)) F d_L_law_527 hX hbl hbA (by omega) (by omega) rfl ?_
  refine V.aload_n F d_L_law_528 rfl 3 rfl ?_
  refine V.iload_n F d_L_law_529 rfl 0 rfl ?_
  refine V.iconst F d_L_law_530 (v := nI (3)) (by decide) ?_
  refine V.iaddN F d_L_law_531 ?_
  refine V.sld (i := (i) + (3)) F d_L_law_532 hX hbl hbA (by omega) (by omega) rfl ?_
  refine V.aload_n F d_L_law_533 rfl 3 rfl ?_
  refine V.iload_n F d_L_law_534 rfl 0 rfl ?_
  refine V.iconst F d_L_law_535 (v := nI (4)) (by decide) ?_
  refine V.iaddN F d_L_law_536 ?_
  refine V.sld (i := (i) + (4)) F d_L_law_537 hX hbl hbA (by omega) (by omega) rfl ?_
  obtain ⟨p1, p2, hc, hm, hrel⟩ := both_settle l D hR (xs ((i) + (1))) (xs ((i) + (2))) (xs ((i) + (3))) (xs ((i) + (4)))
  obtain ⟨f1, hq1⟩ := rel_T hR
  obtain ⟨f2, hq2⟩ := rel_M hR
  refine V.callVI (As := [.int (xs ((i) + (1))), .int (xs ((i) + (2))), .int (xs ((i) + (3))), .int (xs ((i) + (4)))]) (rest := []) F hc d_L_law_538 sv_L_45 im_y_T_settle sl_y_T_settle [] u2 rfl 0 (ap_l hq1) rfl rfl rfl rfl (Nat.le_of_ble_eq_true rfl) ⟨rfl, rfl, (Nat.le_of_ble_eq_true rfl), (Nat.le_of_ble_eq_true rfl)⟩ ⟨by show _ ≤ 600000; omega, by show _ ≤ 7302250; omega⟩ (fun r1 v1 h1 => ?_)
  refine V.ws_eq (ws2 := v1 ++ u2) rfl ?_
  refine V.aload_n F d_L_law_541 rfl 1 rfl ?_
  refine V.aload_n F d_L_law_542 rfl 3 rfl ?_
  refine V.iload_n F d_L_law_543 rfl 0 rfl ?_
  refine V.iconst F d_L_law_544 (v := nI (1)) (by decide) ?_
  refine V.iaddN F d_L_law_545 ?_
  refine V.sld (i := (i) + (1)) F d_L_law_546 hX hbl hbA (by omega) (by omega) rfl ?_
  refine V.aload_n F d_L_law_547 rfl 3 rfl ?_
  refine V.iload_n F d_L_law_548 rfl 0 rfl ?_
  refine V.iconst F d_L_law_549 (v := nI (2)) (by decide) ?_
  refine V.iaddN F d_L_law_550 ?_
  refine V.sld (i := (i) + (2)) F d_L_law_551 hX hbl hbA (by omega) (by omega) rfl ?_
  refine V.aload_n F d_L_law_552 rfl 3 rfl ?_
  refine V.iload_n F d_L_law_553 rfl 0 rfl ?_
  refine V.iconst F d_L_law_554 (v := nI (3)) (by decide) ?_
  refine V.iaddN F d_L_law_555 ?_
  refine V.sld (i := (i) + (3)) F d_L_law_556 hX hbl hbA (by omega) (by omega) rfl ?_
  refine V.aload_n F d_L_law_557 rfl 3 rfl ?_
  refine V.iload_n F d_L_law_558 rfl 0 rfl ?_
  refine V.iconst F d_L_law_559 (v := nI (4)) (by decide) ?_
  refine V.iaddN F d_L_law_560 ?_
  refine V.sld (i := (i) + (4)) F d_L_law_561 hX hbl hbA (by omega) (by omega) rfl ?_
  refine V.callVI (As := [.int (xs ((i) + (1))), .int (xs ((i) + (2))), .int (xs ((i) + (3))), .int (xs ((i) + (4)))]) (rest := [.int (r1)]) F hm d_L_law_562 sv_L_49 im_y_M_settle sl_y_M_settle v1 [] (by rw [List.append_nil]) v1.length (ap_r hq2) rfl rfl rfl rfl (Nat.le_of_ble_eq_true rfl) ⟨rfl, rfl, (Nat.le_of_ble_eq_true rfl), (Nat.le_of_ble_eq_true rfl)⟩ ⟨by show _ ≤ 600000; omega, by show _ ≤ 7302250; omega⟩ (fun r2 v2 h2 => ?_)
  refine V.ws_eq (ws2 := v1 ++ v2) (by rw [List.append_nil]) ?_
  obtain ⟨e9, hR2⟩ := hrel r1 r2 v1 v2 h1 h2
  refine V.icmp_eq (x := r1) (y := r2) (tgt := 818) F d_L_law_565 (by decide) (fun c565 => ?_) (fun c565 => ?_)
  · skip
    refine V.iincN (k := 8) (lv2 := [(3, .int (nI (i + 8))), (2, .ref (mo 0)), (1, .ref (ad 0)), (0, .ref (b))]) F d_L_law_818 0 rfl (by decide) (by decide) rfl ?_
    refine V.goto (tgt := 18) F d_L_law_821 (by decide) ?_
    refine V.widen (k := 40 + (i + 8)) (n := 110000 + 50 * (i + 8)) (by omega) (by omega) ?_
    exact kk v1 v2 hR2
  · skip
    exact absurd e9 c565

set_option maxHeartbeats 4000000 in
set_option maxRecDepth 100000 in
theorem law_equal {p : Program} {l : Launch} {e : Env} {s : State} {m : MethodId} {below : List Frame} {meth : Method} {c : Code} {D : va_G} {ct : Nat → ClassId} {ad mo : Nat → Nat} {b L : Nat} {xs : Nat → Int32} (hL : L ≤ 4096) (F : Fx p m meth c code 4 s #[Value.ref b] R_L D (tyL ct) (fun q : Nat => s.heap.size ≤ q)) (hX : va_X b L xs s s.heap) (hbl : b < s.heap.size) (hbA : ¬ (fun q : Nat => s.heap.size ≤ q) b) {i : Nat} {u1 u2 : va_W} (hi : i + 8 ≤ L) (hR : Rel ct ad mo u1 u2) (kk : ∀ v1 v2, Rel ct ad mo v1 v2 → V p l e room_1 s m #[Value.ref b] below meth c D (fun q : Nat => s.heap.size ≤ q) 4 (40 + (i + 8)) (110000 + 50 * (i + 8)) (lw_Z below #[Value.ref b] s) (v1 ++ v2) [(3, .int (nI (i + 8))), (2, .ref (mo 0)), (1, .ref (ad 0)), (0, .ref (b))] 18 []) : V p l e room_1 s m #[Value.ref b] below meth c D (fun q : Nat => s.heap.size ≤ q) 4 (40 + i) (110000 + 50 * i) (lw_Z below #[Value.ref b] s) (u1 ++ u2) [(3, .int (nI (i))), (2, .ref (mo 0)), (1, .ref (ad 0)), (0, .ref (b))] 570 [] := by
  refine V.aload_n F d_L_law_570 rfl 2 rfl ?_
  refine V.aload_n F d_L_law_571 rfl 3 rfl ?_
  refine V.iload_n F d_L_law_572 rfl 0 rfl ?_
  refine V.iconst F d_L_law_573 (v := nI (1)) (by decide) ?_
  refine V.iaddN F d_L_law_574 ?_
  refine V.sld (i := (i) + (1)) F d_L_law_575 hX hbl hbA (by omega) (by omega) rfl ?_
  refine V.aload_n F d_L_law_576 rfl 3 rfl ?_
  refine V.iload_n F d_L_law_577 rfl 0 rfl ?_
  refine V.iconst F d_L_law_578 (v := nI (2)) (by decide) ?_
  refine V.iaddN F d_L_law_579 ?_
  refine V.sld (i := (i) + (2)) F d_L_law_580 hX hbl hbA (by omega) (by omega) rfl ?_
  obtain ⟨p1, p2, hc, hm, hrel⟩ := both_equal l D hR (xs ((i) + (1))) (xs ((i) + (2)))
  obtain ⟨f1, hq1⟩ := rel_T hR
  obtain ⟨f2, hq2⟩ := rel_M hR
  refine V.callVI (As := [.int (xs ((i) + (1))), .int (xs ((i) + (2)))]) (rest := []) F hc d_L_law_581 sv_L_50 im_y_T_equal sl_y_T_equal [] u2 rfl 0 (ap_l hq1) rfl rfl rfl rfl (Nat.le_of_ble_eq_true rfl) ⟨rfl, rfl, (Nat.le_of_ble_eq_true rfl), (Nat.le_of_ble_eq_true rfl)⟩ ⟨by show _ ≤ 600000; omega, by show _ ≤ 7302250; omega⟩ (fun r1 v1 h1 => ?_)
  refine V.ws_eq (ws2 := v1 ++ u2) rfl ?_
  refine V.aload_n F d_L_law_584 rfl 1 rfl ?_
  refine V.aload_n F d_L_law_585 rfl 3 rfl ?_
  refine V.iload_n F d_L_law_586 rfl 0 rfl ?_
  refine V.iconst F d_L_law_587 (v := nI (1)) (by decide) ?_
  refine V.iaddN F d_L_law_588 ?_
  refine V.sld (i := (i) + (1)) F d_L_law_589 hX hbl hbA (by omega) (by omega) rfl ?_
  refine V.aload_n F d_L_law_590 rfl 3 rfl ?_
  refine V.iload_n F d_L_law_591 rfl 0 rfl ?_
  refine V.iconst F d_L_law_592 (v := nI (2)) (by decide) ?_
  refine V.iaddN F d_L_law_593 ?_
  refine V.sld (i := (i) + (2)) F d_L_law_594 hX hbl hbA (by omega) (by omega) rfl ?_
  refine V.callVI (As := [.int (xs ((i) + (1))), .int (xs ((i) + (2)))]) (rest := [.int (r1)]) F hm d_L_law_595 sv_L_54 im_y_M_equal sl_y_M_equal v1 [] (by rw [List.append_nil]) v1.length (ap_r hq2) rfl rfl rfl rfl (Nat.le_of_ble_eq_true rfl) ⟨rfl, rfl, (Nat.le_of_ble_eq_true rfl), (Nat.le_of_ble_eq_true rfl)⟩ ⟨by show _ ≤ 600000; omega, by show _ ≤ 7302250; omega⟩ (fun r2 v2 h2 => ?_)
  refine V.ws_eq (ws2 := v1 ++ v2) (by rw [List.append_nil]) ?_
  obtain ⟨e9, hR2⟩ := hrel r1 r2 v1 v2 h1 h2
  refine V.icmp_eq (x := r1) (y := r2) (tgt := 818) F d_L_law_598 (by decide) (fun c598 => ?_) (fun c598 => ?_)
  · skip
    refine V.iincN (k := 8) (lv2 := [(3, .int (nI (i + 8))), (2, .ref (mo 0)), (1, .ref (ad 0)), (0, .ref (b))]) F d_L_law_818 0 rfl (by decide) (by decide) rfl ?_
    refine V.goto (tgt := 18) F d_L_law_821 (by decide) ?_
    refine V.widen (k := 40 + (i + 8)) (n := 110000 + 50 * (i + 8)) (by omega) (by omega) ?_
    exact kk v1 v2 hR2
  · skip
    exact absurd e9 c598

set_option maxHeartbeats 4000000 in
set_option maxRecDepth 100000 in
theorem law_batch {p : Program} {l : Launch} {e : Env} {s : State} {m : MethodId} {below : List Frame} {meth : Method} {c : Code} {D : va_G} {ct : Nat → ClassId} {ad mo : Nat → Nat} {b L : Nat} {xs : Nat → Int32} (hL : L ≤ 4096) (F : Fx p m meth c code 4 s #[Value.ref b] R_L D (tyL ct) (fun q : Nat => s.heap.size ≤ q)) (hX : va_X b L xs s s.heap) (hbl : b < s.heap.size) (hbA : ¬ (fun q : Nat => s.heap.size ≤ q) b) {i : Nat} {u1 u2 : va_W} (hi : i + 8 ≤ L) (hR : Rel ct ad mo u1 u2) (kk : ∀ v1 v2, Rel ct ad mo v1 v2 → V p l e room_1 s m #[Value.ref b] below meth c D (fun q : Nat => s.heap.size ≤ q) 4 (40 + (i + 8)) (110000 + 50 * (i + 8)) (lw_Z below #[Value.ref b] s) (v1 ++ v2) [(3, .int (nI (i + 8))), (2, .ref (mo 0)), (1, .ref (ad 0)), (0, .ref (b))] 18 []) : V p l e room_1 s m #[Value.ref b] below meth c D (fun q : Nat => s.heap.size ≤ q) 4 (40 + i) (110000 + 50 * i) (lw_Z below #[Value.ref b] s) (u1 ++ u2) [(3, .int (nI (i))), (2, .ref (mo 0)), (1, .ref (ad 0)), (0, .ref (b))] 603 [] := by
  refine V.aload_n F d_L_law_603 rfl 2 rfl ?_
  refine V.aload_n F d_L_law_604 rfl 3 rfl ?_
  refine V.iload_n F d_L_law_605 rfl 0 rfl ?_
  refine V.iconst F d_L_law_606 (v := nI (1)) (by decide) ?_
  refine V.iaddN F d_L_law_607 ?_
  refine V.sld (i := (i) + (1)) F d_L_law_608 hX hbl hbA (by omega) (by omega) rfl ?_
  obtain ⟨p1, p2, hc, hm, hrel⟩ := both_batch l D hR (xs ((i) + (1)))
  obtain ⟨f1, hq1⟩ := rel_T hR
  obtain ⟨f2, hq2⟩ := rel_M hR
  refine V.callVI (As := [.int (xs ((i) + (1)))]) (rest := []) F hc d_L_law_609 sv_L_55 im_y_T_batch sl_y_T_batch [] u2 rfl 0 (ap_l hq1) rfl rfl rfl rfl (Nat.le_of_ble_eq_true rfl) ⟨rfl, rfl, (Nat.le_of_ble_eq_true rfl), (Nat.le_of_ble_eq_true rfl)⟩ ⟨by show _ ≤ 600000; omega, by show _ ≤ 7302250; omega⟩ (fun r1 v1 h1 => ?_)
  refine V.ws_eq (ws2 := v1 ++ u2) rfl ?_
  refine V.aload_n F d_L_law_612 rfl 1 rfl ?_
  refine V.aload_n F d_L_law_613 rfl 3 rfl ?_
  refine V.iload_n F d_L_law_614 rfl 0 rfl ?_
  refine V.iconst F d_L_law_615 (v := nI (1)) (by decide) ?_
  refine V.iaddN F d_L_law_616 ?_
  refine V.sld (i := (i) + (1)) F d_L_law_617 hX hbl hbA (by omega) (by omega) rfl ?_
  refine V.callVI (As := [.int (xs ((i) + (1)))]) (rest := [.int (r1)]) F hm d_L_law_618 sv_L_59 im_y_M_batch sl_y_M_batch v1 [] (by rw [List.append_nil]) v1.length (ap_r hq2) rfl rfl rfl rfl (Nat.le_of_ble_eq_true rfl) ⟨rfl, rfl, (Nat.le_of_ble_eq_true rfl), (Nat.le_of_ble_eq_true rfl)⟩ ⟨by show _ ≤ 600000; omega, by show _ ≤ 7302250; omega⟩ (fun r2 v2 h2 => ?_)
  refine V.ws_eq (ws2 := v1 ++ v2) (by rw [List.append_nil]) ?_
  obtain ⟨e9, hR2⟩ := hrel r1 r2 v1 v2 h1 h2
  refine V.icmp_eq (x := r1) (y := r2) (tgt := 818) F d_L_law_621 (by decide) (fun c621 => ?_) (fun c621 => ?_)
  · skip
    refine V.iincN (k := 8) (lv2 := [(3, .int (nI (i + 8))), (2, .ref (mo 0)), (1, .ref (ad 0)), (0, .ref (b))]) F d_L_law_818 0 rfl (by decide) (by decide) rfl ?_
    refine V.goto (tgt := 18) F d_L_law_821 (by decide) ?_
    refine V.widen (k := 40 + (i + 8)) (n := 110000 + 50 * (i + 8)) (by omega) (by omega) ?_
    exact kk v1 v2 hR2
  · skip
    exact absurd e9 c621

set_option maxHeartbeats 4000000 in
set_option maxRecDepth 100000 in
theorem law_endBatch {p : Program} {l : Launch} {e : Env} {s : State} {m : MethodId} {below : List Frame} {meth : Method} {c : Code} {D : va_G} {ct : Nat → ClassId} {ad mo : Nat → Nat} {b L : Nat} {xs : Nat → Int32} (hL : L ≤ 4096) (F : Fx p m meth c code 4 s #[Value.ref b] R_L D (tyL ct) (fun q : Nat => s.heap.size ≤ q)) (hX : va_X b L xs s s.heap) (hbl : b < s.heap.size) (hbA : ¬ (fun q : Nat => s.heap.size ≤ q) b) {i : Nat} {u1 u2 : va_W} (hi : i + 8 ≤ L) (hR : Rel ct ad mo u1 u2) (kk : ∀ v1 v2, Rel ct ad mo v1 v2 → V p l e room_1 s m #[Value.ref b] below meth c D (fun q : Nat => s.heap.size ≤ q) 4 (40 + (i + 8)) (110000 + 50 * (i + 8)) (lw_Z below #[Value.ref b] s) (v1 ++ v2) [(3, .int (nI (i + 8))), (2, .ref (mo 0)), (1, .ref (ad 0)), (0, .ref (b))] 18 []) : V p l e room_1 s m #[Value.ref b] below meth c D (fun q : Nat => s.heap.size ≤ q) 4 (40 + i) (110000 + 50 * i) (lw_Z below #[Value.ref b] s) (u1 ++ u2) [(3, .int (nI (i))), (2, .ref (mo 0)), (1, .ref (ad 0)), (0, .ref (b))] 626 [] := by
  refine V.aload_n F d_L_law_626 rfl 2 rfl ?_
  refine V.aload_n F d_L_law_627 rfl 3 rfl ?_
  refine V.iload_n F d_L_law_628 rfl 0 rfl ?_
  refine V.iconst F d_L_law_629 (v := nI (1)) (by decide) ?_
  refine V.iaddN F d_L_law_630 ?_
  refine V.sld (i := (i) + (1)) F d_L_law_631 hX hbl hbA (by omega) (by omega) rfl ?_
  obtain ⟨p1, p2, hc, hm, hrel⟩ := both_endBatch l D hR (xs ((i) + (1)))
  obtain ⟨f1, hq1⟩ := rel_T hR
  obtain ⟨f2, hq2⟩ := rel_M hR
  refine V.callVI (As := [.int (xs ((i) + (1)))]) (rest := []) F hc d_L_law_632 sv_L_60 im_y_T_endBatch sl_y_T_endBatch [] u2 rfl 0 (ap_l hq1) rfl rfl rfl rfl (Nat.le_of_ble_eq_true rfl) ⟨rfl, rfl, (Nat.le_of_ble_eq_true rfl), (Nat.le_of_ble_eq_true rfl)⟩ ⟨by show _ ≤ 600000; omega, by show _ ≤ 7302250; omega⟩ (fun r1 v1 h1 => ?_)
  refine V.ws_eq (ws2 := v1 ++ u2) rfl ?_
  refine V.aload_n F d_L_law_635 rfl 1 rfl ?_
  refine V.aload_n F d_L_law_636 rfl 3 rfl ?_
  refine V.iload_n F d_L_law_637 rfl 0 rfl ?_
  refine V.iconst F d_L_law_638 (v := nI (1)) (by decide) ?_
  refine V.iaddN F d_L_law_639 ?_
  refine V.sld (i := (i) + (1)) F d_L_law_640 hX hbl hbA (by omega) (by omega) rfl ?_
  refine V.callVI (As := [.int (xs ((i) + (1)))]) (rest := [.int (r1)]) F hm d_L_law_641 sv_L_64 im_y_M_endBatch sl_y_M_endBatch v1 [] (by rw [List.append_nil]) v1.length (ap_r hq2) rfl rfl rfl rfl (Nat.le_of_ble_eq_true rfl) ⟨rfl, rfl, (Nat.le_of_ble_eq_true rfl), (Nat.le_of_ble_eq_true rfl)⟩ ⟨by show _ ≤ 600000; omega, by show _ ≤ 7302250; omega⟩ (fun r2 v2 h2 => ?_)
  refine V.ws_eq (ws2 := v1 ++ v2) (by rw [List.append_nil]) ?_
  obtain ⟨e9, hR2⟩ := hrel r1 r2 v1 v2 h1 h2
  refine V.icmp_eq (x := r1) (y := r2) (tgt := 818) F d_L_law_644 (by decide) (fun c644 => ?_) (fun c644 => ?_)
  · skip
    refine V.iincN (k := 8) (lv2 := [(3, .int (nI (i + 8))), (2, .ref (mo 0)), (1, .ref (ad 0)), (0, .ref (b))]) F d_L_law_818 0 rfl (by decide) (by decide) rfl ?_
    refine V.goto (tgt := 18) F d_L_law_821 (by decide) ?_
    refine V.widen (k := 40 + (i + 8)) (n := 110000 + 50 * (i + 8)) (by omega) (by omega) ?_
    exact kk v1 v2 hR2
  · skip
    exact absurd e9 c644

set_option maxHeartbeats 4000000 in
set_option maxRecDepth 100000 in
theorem law_play {p : Program} {l : Launch} {e : Env} {s : State} {m : MethodId} {below : List Frame} {meth : Method} {c : Code} {D : va_G} {ct : Nat → ClassId} {ad mo : Nat → Nat} {b L : Nat} {xs : Nat → Int32} (hL : L ≤ 4096) (F : Fx p m meth c code 4 s #[Value.ref b] R_L D (tyL ct) (fun q : Nat => s.heap.size ≤ q)) (hX : va_X b L xs s s.heap) (hbl : b < s.heap.size) (hbA : ¬ (fun q : Nat => s.heap.size ≤ q) b) {i : Nat} {u1 u2 : va_W} (hi : i + 8 ≤ L) (hR : Rel ct ad mo u1 u2) (kk : ∀ v1 v2, Rel ct ad mo v1 v2 → V p l e room_1 s m #[Value.ref b] below meth c D (fun q : Nat => s.heap.size ≤ q) 4 (40 + (i + 8)) (110000 + 50 * (i + 8)) (lw_Z below #[Value.ref b] s) (v1 ++ v2) [(3, .int (nI (i + 8))), (2, .ref (mo 0)), (1, .ref (ad 0)), (0, .ref (b))] 18 []) : V p l e room_1 s m #[Value.ref b] below meth c D (fun q : Nat => s.heap.size ≤ q) 4 (40 + i) (110000 + 50 * i) (lw_Z below #[Value.ref b] s) (u1 ++ u2) [(3, .int (nI (i))), (2, .ref (mo 0)), (1, .ref (ad 0)), (0, .ref (b))] 649 [] := by
  refine V.aload_n F d_L_law_649 rfl 2 rfl ?_
  refine V.aload_n F d_L_law_650 rfl 3 rfl ?_
  refine V.iload_n F d_L_law_651 rfl 0 rfl ?_
  refine V.iconst F d_L_law_652 (v := nI (1)) (by decide) ?_
  refine V.iaddN F d_L_law_653 ?_
  refine V.sld (i := (i) + (1)) F d_L_law_654 hX hbl hbA (by omega) (by omega) rfl ?_
  refine V.i2l F d_L_law_655 (v := (xs ((i) + (1))).toInt64) rfl ?_
  refine V.bipush F d_L_law_656 (v := nI (32)) (by decide) ?_
  refine V.lshl F d_L_law_658 (v := ((xs ((i) + (1))).toInt64) <<< ((nI (32)).toInt64 &&& 63)) rfl ?_
  refine V.aload_n F d_L_law_659 rfl 3 rfl ?_
  refine V.iload_n F d_L_law_660 rfl 0 rfl ?_
  refine V.iconst F d_L_law_661 (v := nI (2)) (by decide) ?_
  refine V.iaddN F d_L_law_662 ?_
  refine V.sld (i := (i) + (2)) F d_L_law_663 hX hbl hbA (by omega) (by omega) rfl ?_
  refine V.i2l F d_L_law_664 (v := (xs ((i) + (2))).toInt64) rfl ?_
  refine V.ldc2 F d_L_law_665 (v := 4294967295) lk_L_18 ?_
  refine V.land F d_L_law_668 (v := ((xs ((i) + (2))).toInt64) &&& (4294967295)) rfl ?_
  refine V.lor F d_L_law_669 (v := (((xs ((i) + (1))).toInt64) <<< ((nI (32)).toInt64 &&& 63)) ||| (((xs ((i) + (2))).toInt64) &&& (4294967295))) rfl ?_
  refine V.aload_n F d_L_law_670 rfl 3 rfl ?_
  refine V.iload_n F d_L_law_671 rfl 0 rfl ?_
  refine V.iconst F d_L_law_672 (v := nI (3)) (by decide) ?_
  refine V.iaddN F d_L_law_673 ?_
  refine V.sld (i := (i) + (3)) F d_L_law_674 hX hbl hbA (by omega) (by omega) rfl ?_
  obtain ⟨p1, p2, hc, hm, hrel⟩ := both_play l D hR ((((xs ((i) + (1))).toInt64) <<< ((nI (32)).toInt64 &&& 63)) ||| (((xs ((i) + (2))).toInt64) &&& (4294967295))) (xs ((i) + (3)))
  obtain ⟨f1, hq1⟩ := rel_T hR
  obtain ⟨f2, hq2⟩ := rel_M hR
  refine V.callVI (As := [.long ((((xs ((i) + (1))).toInt64) <<< ((nI (32)).toInt64 &&& 63)) ||| (((xs ((i) + (2))).toInt64) &&& (4294967295))), .int (xs ((i) + (3)))]) (rest := []) F hc d_L_law_675 sv_L_65 im_y_T_play sl_y_T_play [] u2 rfl 0 (ap_l hq1) rfl rfl rfl rfl (Nat.le_of_ble_eq_true rfl) ⟨rfl, rfl, (Nat.le_of_ble_eq_true rfl), (Nat.le_of_ble_eq_true rfl)⟩ ⟨by show _ ≤ 600000; omega, by show _ ≤ 7302250; omega⟩ (fun r1 v1 h1 => ?_)
  refine V.ws_eq (ws2 := v1 ++ u2) rfl ?_
  refine V.aload_n F d_L_law_678 rfl 1 rfl ?_
  refine V.aload_n F d_L_law_679 rfl 3 rfl ?_
  refine V.iload_n F d_L_law_680 rfl 0 rfl ?_
  refine V.iconst F d_L_law_681 (v := nI (1)) (by decide) ?_
  refine V.iaddN F d_L_law_682 ?_
  refine V.sld (i := (i) + (1)) F d_L_law_683 hX hbl hbA (by omega) (by omega) rfl ?_
  refine V.i2l F d_L_law_684 (v := (xs ((i) + (1))).toInt64) rfl ?_
  refine V.bipush F d_L_law_685 (v := nI (32)) (by decide) ?_
  refine V.lshl F d_L_law_687 (v := ((xs ((i) + (1))).toInt64) <<< ((nI (32)).toInt64 &&& 63)) rfl ?_
  refine V.aload_n F d_L_law_688 rfl 3 rfl ?_
  refine V.iload_n F d_L_law_689 rfl 0 rfl ?_
  refine V.iconst F d_L_law_690 (v := nI (2)) (by decide) ?_
  refine V.iaddN F d_L_law_691 ?_
  refine V.sld (i := (i) + (2)) F d_L_law_692 hX hbl hbA (by omega) (by omega) rfl ?_
  refine V.i2l F d_L_law_693 (v := (xs ((i) + (2))).toInt64) rfl ?_
  refine V.ldc2 F d_L_law_694 (v := 4294967295) lk_L_18 ?_
  refine V.land F d_L_law_697 (v := ((xs ((i) + (2))).toInt64) &&& (4294967295)) rfl ?_
  refine V.lor F d_L_law_698 (v := (((xs ((i) + (1))).toInt64) <<< ((nI (32)).toInt64 &&& 63)) ||| (((xs ((i) + (2))).toInt64) &&& (4294967295))) rfl ?_
  refine V.aload_n F d_L_law_699 rfl 3 rfl ?_
  refine V.iload_n F d_L_law_700 rfl 0 rfl ?_
  refine V.iconst F d_L_law_701 (v := nI (3)) (by decide) ?_
  refine V.iaddN F d_L_law_702 ?_
  refine V.sld (i := (i) + (3)) F d_L_law_703 hX hbl hbA (by omega) (by omega) rfl ?_
  refine V.callVI (As := [.long ((((xs ((i) + (1))).toInt64) <<< ((nI (32)).toInt64 &&& 63)) ||| (((xs ((i) + (2))).toInt64) &&& (4294967295))), .int (xs ((i) + (3)))]) (rest := [.int (r1)]) F hm d_L_law_704 sv_L_69 im_y_M_play sl_y_M_play v1 [] (by rw [List.append_nil]) v1.length (ap_r hq2) rfl rfl rfl rfl (Nat.le_of_ble_eq_true rfl) ⟨rfl, rfl, (Nat.le_of_ble_eq_true rfl), (Nat.le_of_ble_eq_true rfl)⟩ ⟨by show _ ≤ 600000; omega, by show _ ≤ 7302250; omega⟩ (fun r2 v2 h2 => ?_)
  refine V.ws_eq (ws2 := v1 ++ v2) (by rw [List.append_nil]) ?_
  obtain ⟨e9, hR2⟩ := hrel r1 r2 v1 v2 h1 h2
  refine V.icmp_eq (x := r1) (y := r2) (tgt := 818) F d_L_law_707 (by decide) (fun c707 => ?_) (fun c707 => ?_)
  · skip
    refine V.iincN (k := 8) (lv2 := [(3, .int (nI (i + 8))), (2, .ref (mo 0)), (1, .ref (ad 0)), (0, .ref (b))]) F d_L_law_818 0 rfl (by decide) (by decide) rfl ?_
    refine V.goto (tgt := 18) F d_L_law_821 (by decide) ?_
    refine V.widen (k := 40 + (i + 8)) (n := 110000 + 50 * (i + 8)) (by omega) (by omega) ?_
    exact kk v1 v2 hR2
  · skip
    exact absurd e9 c707

set_option maxHeartbeats 4000000 in
set_option maxRecDepth 100000 in
theorem law_find {p : Program} {l : Launch} {e : Env} {s : State} {m : MethodId} {below : List Frame} {meth : Method} {c : Code} {D : va_G} {ct : Nat → ClassId} {ad mo : Nat → Nat} {b L : Nat} {xs : Nat → Int32} (hL : L ≤ 4096) (F : Fx p m meth c code 4 s #[Value.ref b] R_L D (tyL ct) (fun q : Nat => s.heap.size ≤ q)) (hX : va_X b L xs s s.heap) (hbl : b < s.heap.size) (hbA : ¬ (fun q : Nat => s.heap.size ≤ q) b) {i : Nat} {u1 u2 : va_W} (hi : i + 8 ≤ L) (hR : Rel ct ad mo u1 u2) (kk : ∀ v1 v2, Rel ct ad mo v1 v2 → V p l e room_1 s m #[Value.ref b] below meth c D (fun q : Nat => s.heap.size ≤ q) 4 (40 + (i + 8)) (110000 + 50 * (i + 8)) (lw_Z below #[Value.ref b] s) (v1 ++ v2) [(3, .int (nI (i + 8))), (2, .ref (mo 0)), (1, .ref (ad 0)), (0, .ref (b))] 18 []) : V p l e room_1 s m #[Value.ref b] below meth c D (fun q : Nat => s.heap.size ≤ q) 4 (40 + i) (110000 + 50 * i) (lw_Z below #[Value.ref b] s) (u1 ++ u2) [(3, .int (nI (i))), (2, .ref (mo 0)), (1, .ref (ad 0)), (0, .ref (b))] 712 [] := by
  refine V.aload_n F d_L_law_712 rfl 2 rfl ?_
  refine V.aload_n F d_L_law_713 rfl 3 rfl ?_
  refine V.iload_n F d_L_law_714 rfl 0 rfl ?_
  refine V.iconst F d_L_law_715 (v := nI (1)) (by decide) ?_
  refine V.iaddN F d_L_law_716 ?_
  refine V.sld (i := (i) + (1)) F d_L_law_717 hX hbl hbA (by omega) (by omega) rfl ?_
  refine V.aload_n F d_L_law_718 rfl 3 rfl ?_
  refine V.iload_n F d_L_law_719 rfl 0 rfl ?_
  refine V.iconst F d_L_law_720 (v := nI (2)) (by decide) ?_
  refine V.iaddN F d_L_law_721 ?_
  refine V.sld (i := (i) + (2)) F d_L_law_722 hX hbl hbA (by omega) (by omega) rfl ?_
  refine V.aload_n F d_L_law_723 rfl 3 rfl ?_
  refine V.iload_n F d_L_law_724 rfl 0 rfl ?_
  refine V.iconst F d_L_law_725 (v := nI (3)) (by decide) ?_
  refine V.iaddN F d_L_law_726 ?_
  refine V.sld (i := (i) + (3)) F d_L_law_727 hX hbl hbA (by omega) (by omega) rfl ?_
  refine V.i2l F d_L_law_728 (v := (xs ((i) + (3))).toInt64) rfl ?_
  refine V.bipush F d_L_law_729 (v := nI (32)) (by decide) ?_
  refine V.lshl F d_L_law_731 (v := ((xs ((i) + (3))).toInt64) <<< ((nI (32)).toInt64 &&& 63)) rfl ?_
  refine V.aload_n F d_L_law_732 rfl 3 rfl ?_
  refine V.iload_n F d_L_law_733 rfl 0 rfl ?_
  refine V.iconst F d_L_law_734 (v := nI (4)) (by decide) ?_
  refine V.iaddN F d_L_law_735 ?_
  refine V.sld (i := (i) + (4)) F d_L_law_736 hX hbl hbA (by omega) (by omega) rfl ?_
  refine V.i2l F d_L_law_737 (v := (xs ((i) + (4))).toInt64) rfl ?_
  refine V.ldc2 F d_L_law_738 (v := 4294967295) lk_L_18 ?_
  refine V.land F d_L_law_741 (v := ((xs ((i) + (4))).toInt64) &&& (4294967295)) rfl ?_
  refine V.lor F d_L_law_742 (v := (((xs ((i) + (3))).toInt64) <<< ((nI (32)).toInt64 &&& 63)) ||| (((xs ((i) + (4))).toInt64) &&& (4294967295))) rfl ?_
  refine V.aload_n F d_L_law_743 rfl 3 rfl ?_
  refine V.iload_n F d_L_law_744 rfl 0 rfl ?_
  refine V.iconst F d_L_law_745 (v := nI (5)) (by decide) ?_
  refine V.iaddN F d_L_law_746 ?_
  refine V.sld (i := (i) + (5)) F d_L_law_747 hX hbl hbA (by omega) (by omega) rfl ?_
  obtain ⟨p1, p2, hc, hm, hrel⟩ := both_find l D hR (xs ((i) + (1))) (xs ((i) + (2))) ((((xs ((i) + (3))).toInt64) <<< ((nI (32)).toInt64 &&& 63)) ||| (((xs ((i) + (4))).toInt64) &&& (4294967295))) (xs ((i) + (5)))
  obtain ⟨f1, hq1⟩ := rel_T hR
  obtain ⟨f2, hq2⟩ := rel_M hR
  refine V.callVI (As := [.int (xs ((i) + (1))), .int (xs ((i) + (2))), .long ((((xs ((i) + (3))).toInt64) <<< ((nI (32)).toInt64 &&& 63)) ||| (((xs ((i) + (4))).toInt64) &&& (4294967295))), .int (xs ((i) + (5)))]) (rest := []) F hc d_L_law_748 sv_L_70 im_y_T_find sl_y_T_find [] u2 rfl 0 (ap_l hq1) rfl rfl rfl rfl (Nat.le_of_ble_eq_true rfl) ⟨rfl, rfl, (Nat.le_of_ble_eq_true rfl), (Nat.le_of_ble_eq_true rfl)⟩ ⟨by show _ ≤ 600000; omega, by show _ ≤ 7302250; omega⟩ (fun r1 v1 h1 => ?_)
  refine V.ws_eq (ws2 := v1 ++ u2) rfl ?_
  refine V.aload_n F d_L_law_751 rfl 1 rfl ?_
  refine V.aload_n F d_L_law_752 rfl 3 rfl ?_
  refine V.iload_n F d_L_law_753 rfl 0 rfl ?_
  refine V.iconst F d_L_law_754 (v := nI (1)) (by decide) ?_
  refine V.iaddN F d_L_law_755 ?_
  refine V.sld (i := (i) + (1)) F d_L_law_756 hX hbl hbA (by omega) (by omega) rfl ?_
  refine V.aload_n F d_L_law_757 rfl 3 rfl ?_
  refine V.iload_n F d_L_law_758 rfl 0 rfl ?_
  refine V.iconst F d_L_law_759 (v := nI (2)) (by decide) ?_
  refine V.iaddN F d_L_law_760 ?_
  refine V.sld (i := (i) + (2)) F d_L_law_761 hX hbl hbA (by omega) (by omega) rfl ?_
  refine V.aload_n F d_L_law_762 rfl 3 rfl ?_
  refine V.iload_n F d_L_law_763 rfl 0 rfl ?_
  refine V.iconst F d_L_law_764 (v := nI (3)) (by decide) ?_
  refine V.iaddN F d_L_law_765 ?_
  refine V.sld (i := (i) + (3)) F d_L_law_766 hX hbl hbA (by omega) (by omega) rfl ?_
  refine V.i2l F d_L_law_767 (v := (xs ((i) + (3))).toInt64) rfl ?_
  refine V.bipush F d_L_law_768 (v := nI (32)) (by decide) ?_
  refine V.lshl F d_L_law_770 (v := ((xs ((i) + (3))).toInt64) <<< ((nI (32)).toInt64 &&& 63)) rfl ?_
  refine V.aload_n F d_L_law_771 rfl 3 rfl ?_
  refine V.iload_n F d_L_law_772 rfl 0 rfl ?_
  refine V.iconst F d_L_law_773 (v := nI (4)) (by decide) ?_
  refine V.iaddN F d_L_law_774 ?_
  refine V.sld (i := (i) + (4)) F d_L_law_775 hX hbl hbA (by omega) (by omega) rfl ?_
  refine V.i2l F d_L_law_776 (v := (xs ((i) + (4))).toInt64) rfl ?_
  refine V.ldc2 F d_L_law_777 (v := 4294967295) lk_L_18 ?_
  refine V.land F d_L_law_780 (v := ((xs ((i) + (4))).toInt64) &&& (4294967295)) rfl ?_
  refine V.lor F d_L_law_781 (v := (((xs ((i) + (3))).toInt64) <<< ((nI (32)).toInt64 &&& 63)) ||| (((xs ((i) + (4))).toInt64) &&& (4294967295))) rfl ?_
  refine V.aload_n F d_L_law_782 rfl 3 rfl ?_
  refine V.iload_n F d_L_law_783 rfl 0 rfl ?_
  refine V.iconst F d_L_law_784 (v := nI (5)) (by decide) ?_
  refine V.iaddN F d_L_law_785 ?_
  refine V.sld (i := (i) + (5)) F d_L_law_786 hX hbl hbA (by omega) (by omega) rfl ?_
  refine V.callVI (As := [.int (xs ((i) + (1))), .int (xs ((i) + (2))), .long ((((xs ((i) + (3))).toInt64) <<< ((nI (32)).toInt64 &&& 63)) ||| (((xs ((i) + (4))).toInt64) &&& (4294967295))), .int (xs ((i) + (5)))]) (rest := [.int (r1)]) F hm d_L_law_787 sv_L_74 im_y_M_find sl_y_M_find v1 [] (by rw [List.append_nil]) v1.length (ap_r hq2) rfl rfl rfl rfl (Nat.le_of_ble_eq_true rfl) ⟨rfl, rfl, (Nat.le_of_ble_eq_true rfl), (Nat.le_of_ble_eq_true rfl)⟩ ⟨by show _ ≤ 600000; omega, by show _ ≤ 7302250; omega⟩ (fun r2 v2 h2 => ?_)
  refine V.ws_eq (ws2 := v1 ++ v2) (by rw [List.append_nil]) ?_
  obtain ⟨e9, hR2⟩ := hrel r1 r2 v1 v2 h1 h2
  refine V.icmp_eq (x := r1) (y := r2) (tgt := 818) F d_L_law_790 (by decide) (fun c790 => ?_) (fun c790 => ?_)
  · skip
    refine V.iincN (k := 8) (lv2 := [(3, .int (nI (i + 8))), (2, .ref (mo 0)), (1, .ref (ad 0)), (0, .ref (b))]) F d_L_law_818 0 rfl (by decide) (by decide) rfl ?_
    refine V.goto (tgt := 18) F d_L_law_821 (by decide) ?_
    refine V.widen (k := 40 + (i + 8)) (n := 110000 + 50 * (i + 8)) (by omega) (by omega) ?_
    exact kk v1 v2 hR2
  · skip
    exact absurd e9 c790

set_option maxHeartbeats 4000000 in
set_option maxRecDepth 100000 in
theorem law_counts {p : Program} {l : Launch} {e : Env} {s : State} {m : MethodId} {below : List Frame} {meth : Method} {c : Code} {D : va_G} {ct : Nat → ClassId} {ad mo : Nat → Nat} {b L : Nat} {xs : Nat → Int32} (hL : L ≤ 4096) (F : Fx p m meth c code 4 s #[Value.ref b] R_L D (tyL ct) (fun q : Nat => s.heap.size ≤ q)) (hX : va_X b L xs s s.heap) (hbl : b < s.heap.size) (hbA : ¬ (fun q : Nat => s.heap.size ≤ q) b) {i : Nat} {u1 u2 : va_W} (hi : i + 8 ≤ L) (hR : Rel ct ad mo u1 u2) (kk : ∀ v1 v2, Rel ct ad mo v1 v2 → V p l e room_1 s m #[Value.ref b] below meth c D (fun q : Nat => s.heap.size ≤ q) 4 (40 + (i + 8)) (110000 + 50 * (i + 8)) (lw_Z below #[Value.ref b] s) (v1 ++ v2) [(3, .int (nI (i + 8))), (2, .ref (mo 0)), (1, .ref (ad 0)), (0, .ref (b))] 18 []) : V p l e room_1 s m #[Value.ref b] below meth c D (fun q : Nat => s.heap.size ≤ q) 4 (40 + i) (110000 + 50 * i) (lw_Z below #[Value.ref b] s) (u1 ++ u2) [(3, .int (nI (i))), (2, .ref (mo 0)), (1, .ref (ad 0)), (0, .ref (b))] 795 [] := by
  refine V.aload_n F d_L_law_795 rfl 2 rfl ?_
  refine V.aload_n F d_L_law_796 rfl 3 rfl ?_
  refine V.iload_n F d_L_law_797 rfl 0 rfl ?_
  refine V.iconst F d_L_law_798 (v := nI (1)) (by decide) ?_
  refine V.iaddN F d_L_law_799 ?_
  refine V.sld (i := (i) + (1)) F d_L_law_800 hX hbl hbA (by omega) (by omega) rfl ?_
  obtain ⟨p1, p2, hc, hm, hrel⟩ := both_counts l D hR (xs ((i) + (1)))
  obtain ⟨f1, hq1⟩ := rel_T hR
  obtain ⟨f2, hq2⟩ := rel_M hR
  refine V.callVI (As := [.int (xs ((i) + (1)))]) (rest := []) F hc d_L_law_801 sv_L_75 im_y_T_counts sl_y_T_counts [] u2 rfl 0 (ap_l hq1) rfl rfl rfl rfl (Nat.le_of_ble_eq_true rfl) ⟨rfl, rfl, (Nat.le_of_ble_eq_true rfl), (Nat.le_of_ble_eq_true rfl)⟩ ⟨by show _ ≤ 600000; omega, by show _ ≤ 7302250; omega⟩ (fun r1 v1 h1 => ?_)
  refine V.ws_eq (ws2 := v1 ++ u2) rfl ?_
  refine V.aload_n F d_L_law_804 rfl 1 rfl ?_
  refine V.aload_n F d_L_law_805 rfl 3 rfl ?_
  refine V.iload_n F d_L_law_806 rfl 0 rfl ?_
  refine V.iconst F d_L_law_807 (v := nI (1)) (by decide) ?_
  refine V.iaddN F d_L_law_808 ?_
  refine V.sld (i := (i) + (1)) F d_L_law_809 hX hbl hbA (by omega) (by omega) rfl ?_
  refine V.callVI (As := [.int (xs ((i) + (1)))]) (rest := [.int (r1)]) F hm d_L_law_810 sv_L_78 im_y_M_counts sl_y_M_counts v1 [] (by rw [List.append_nil]) v1.length (ap_r hq2) rfl rfl rfl rfl (Nat.le_of_ble_eq_true rfl) ⟨rfl, rfl, (Nat.le_of_ble_eq_true rfl), (Nat.le_of_ble_eq_true rfl)⟩ ⟨by show _ ≤ 600000; omega, by show _ ≤ 7302250; omega⟩ (fun r2 v2 h2 => ?_)
  refine V.ws_eq (ws2 := v1 ++ v2) (by rw [List.append_nil]) ?_
  obtain ⟨e9, hR2⟩ := hrel r1 r2 v1 v2 h1 h2
  refine V.icmp_eq (x := r1) (y := r2) (tgt := 818) F d_L_law_813 (by decide) (fun c813 => ?_) (fun c813 => ?_)
  · skip
    refine V.iincN (k := 8) (lv2 := [(3, .int (nI (i + 8))), (2, .ref (mo 0)), (1, .ref (ad 0)), (0, .ref (b))]) F d_L_law_818 0 rfl (by decide) (by decide) rfl ?_
    refine V.goto (tgt := 18) F d_L_law_821 (by decide) ?_
    refine V.widen (k := 40 + (i + 8)) (n := 110000 + 50 * (i + 8)) (by omega) (by omega) ?_
    exact kk v1 v2 hR2
  · skip
    exact absurd e9 c813
