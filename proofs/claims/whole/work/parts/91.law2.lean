/-! the law's operations, one by one: the same call of both, the same answer, the same new state -/
/-- what an operation finds -/
def LO (p : Program) (c : Code) (s : State) (m : MethodId) (G : HG) (b b6 b7 L : Nat) (xs : Nat → Int32) (x3 : Int32) (z : ST) (H : Heap) (locs : List Loc) (ls : Array Slot) : Prop := CX p c cL_law 4 s m R_law G (A0 s) ∧ va_X b L xs s s.heap ∧ b < s.heap.size ∧ (vp_in (x3 + 1) L ∧ vp_in (x3 + 2) L ∧ vp_in (x3 + 3) L ∧ vp_in (x3 + 4) L) ∧ LI G s b6 b7 z z H locs ∧ lv_has ls 4 [(0, .ref b), (1, .ref b6), (2, .ref b7), (3, .int x3)]
set_option maxHeartbeats 4000000 in
theorem law_op_rule {p : Program} {e : Env} {s : State} {m : MethodId} {args : Array Value} {below : List Frame} {meth : Method} {c : Code} {H : Heap} {locs : List Loc} {cells slots : Nat} {Q : State → Prop} {ls : Array Slot} {G : HG} (l : Launch) {b b6 b7 L : Nat} {xs : Nat → Int32} {x3 : Int32} {z : ST} (O : LO p c s m G b b6 b7 L xs x3 z H locs ls) (hc : cells + 8 ≤ room_1.cells ∧ slots + 1040 ≤ room_1.slots) (kk : ∀ (z1 : ST) (H1 : Heap) (locs1 : List Loc), LI G s b6 b7 z1 z1 H1 locs1 → W p l e room_1 s m args below meth c H1 locs1 (cells + 8) (slots + 1040) Q (F0 m 948 ls [])) : W p l e room_1 s m args below meth c H locs cells slots Q (F0 m 156 ls []) := by
  obtain ⟨n, R, hd, k, cs, sk, pn, pt⟩ := z
  obtain ⟨X, hX, hbl, ⟨i1, i2, i3, i4⟩, L0, hl⟩ := O
  have hbA : ¬ A0 s b := Nat.not_le.mpr hbl
  refine lv_aload_n X.1 X.2.1 dL_law_156 rfl (lv_at hl 1 rfl) ?_
  refine lv_aload_n X.1 X.2.1 dL_law_157 rfl (lv_at hl 0 rfl) ?_
  refine lv_iload_n X.1 X.2.1 dL_law_158 rfl (lv_at hl 3 rfl) ?_
  refine lv_iconst (v := 1) X.1 X.2.1 dL_law_159 (by decide) ?_
  refine lv_iadd X.1 X.2.1 dL_law_160 ?_
  refine va_sld X.1 X.2.1 hX hbl hbA (li_x L0) i1 dL_law_161 ?_
  refine lv_aload_n X.1 X.2.1 dL_law_162 rfl (lv_at hl 0 rfl) ?_
  refine lv_iload_n X.1 X.2.1 dL_law_163 rfl (lv_at hl 3 rfl) ?_
  refine lv_iconst (v := 2) X.1 X.2.1 dL_law_164 (by decide) ?_
  refine lv_iadd X.1 X.2.1 dL_law_165 ?_
  refine va_sld X.1 X.2.1 hX hbl hbA (li_x L0) i2 dL_law_166 ?_
  refine lv_aload_n X.1 X.2.1 dL_law_167 rfl (lv_at hl 0 rfl) ?_
  refine lv_iload_n X.1 X.2.1 dL_law_168 rfl (lv_at hl 3 rfl) ?_
  refine lv_iconst (v := 3) X.1 X.2.1 dL_law_169 (by decide) ?_
  refine lv_iadd X.1 X.2.1 dL_law_170 ?_
  refine va_sld X.1 X.2.1 hX hbl hbA (li_x L0) i3 dL_law_171 ?_
  refine lv_aload_n X.1 X.2.1 dL_law_172 rfl (lv_at hl 0 rfl) ?_
  refine lv_iload_n X.1 X.2.1 dL_law_173 rfl (lv_at hl 3 rfl) ?_
  refine lv_iconst (v := 4) X.1 X.2.1 dL_law_174 (by decide) ?_
  refine lv_iadd X.1 X.2.1 dL_law_175 ?_
  refine va_sld X.1 X.2.1 hX hbl hbA (li_x L0) i4 dL_law_176 ?_
  refine lc_wi (As := [.int (xs (x3 + 1).toNatClampNeg), .int (xs (x3 + 2).toNatClampNeg), .int (xs (x3 + 3).toNatClampNeg), .int (xs (x3 + 4).toNatClampNeg)]) (rest := []) X L0 (fun r hp1 q => q) (fun A hp hA hO hz => c_X6_rule l G A hp H.size hA hO b6 n R hd k cs sk pn pt hz (xs (x3 + 1).toNatClampNeg) (xs (x3 + 2).toNatClampNeg) (xs (x3 + 3).toNatClampNeg) (xs (x3 + 4).toNatClampNeg)) mf_X6_rule tw_208 tw_209 tw_210 ⟨rfl, rfl, Nat.le_of_ble_eq_true rfl, Nat.le_of_ble_eq_true rfl⟩ hl.1 rfl rfl (Nat.le_of_ble_eq_true rfl) ⟨by omega, by omega⟩ dL_law_177 (fun H locs L1 => ?_)
  refine lv_aload_n X.1 X.2.1 dL_law_180 rfl (lv_at hl 2 rfl) ?_
  refine lv_aload_n X.1 X.2.1 dL_law_181 rfl (lv_at hl 0 rfl) ?_
  refine lv_iload_n X.1 X.2.1 dL_law_182 rfl (lv_at hl 3 rfl) ?_
  refine lv_iconst (v := 1) X.1 X.2.1 dL_law_183 (by decide) ?_
  refine lv_iadd X.1 X.2.1 dL_law_184 ?_
  refine va_sld X.1 X.2.1 hX hbl hbA (li_x L1) i1 dL_law_185 ?_
  refine lv_aload_n X.1 X.2.1 dL_law_186 rfl (lv_at hl 0 rfl) ?_
  refine lv_iload_n X.1 X.2.1 dL_law_187 rfl (lv_at hl 3 rfl) ?_
  refine lv_iconst (v := 2) X.1 X.2.1 dL_law_188 (by decide) ?_
  refine lv_iadd X.1 X.2.1 dL_law_189 ?_
  refine va_sld X.1 X.2.1 hX hbl hbA (li_x L1) i2 dL_law_190 ?_
  refine lv_aload_n X.1 X.2.1 dL_law_191 rfl (lv_at hl 0 rfl) ?_
  refine lv_iload_n X.1 X.2.1 dL_law_192 rfl (lv_at hl 3 rfl) ?_
  refine lv_iconst (v := 3) X.1 X.2.1 dL_law_193 (by decide) ?_
  refine lv_iadd X.1 X.2.1 dL_law_194 ?_
  refine va_sld X.1 X.2.1 hX hbl hbA (li_x L1) i3 dL_law_195 ?_
  refine lv_aload_n X.1 X.2.1 dL_law_196 rfl (lv_at hl 0 rfl) ?_
  refine lv_iload_n X.1 X.2.1 dL_law_197 rfl (lv_at hl 3 rfl) ?_
  refine lv_iconst (v := 4) X.1 X.2.1 dL_law_198 (by decide) ?_
  refine lv_iadd X.1 X.2.1 dL_law_199 ?_
  refine va_sld X.1 X.2.1 hX hbl hbA (li_x L1) i4 dL_law_200 ?_
  refine lr_wi (As := [.int (xs (x3 + 1).toNatClampNeg), .int (xs (x3 + 2).toNatClampNeg), .int (xs (x3 + 3).toNatClampNeg), .int (xs (x3 + 4).toNatClampNeg)]) (rest := [_]) X L1 (fun M r hp1 q => q) (fun A hp M sc ar sm hA hO _ hM hz => c_X7_rule l G A hp _ hA hO M sc ar sm hM n R hd k cs sk pn pt hz (xs (x3 + 1).toNatClampNeg) (xs (x3 + 2).toNatClampNeg) (xs (x3 + 3).toNatClampNeg) (xs (x3 + 4).toNatClampNeg)) mf_X7_rule tw_903 tw_904 tw_905 ⟨rfl, rfl, Nat.le_of_ble_eq_true rfl, Nat.le_of_ble_eq_true rfl⟩ hl.1 rfl rfl (Nat.le_of_ble_eq_true rfl) ⟨by omega, by omega⟩ dL_law_201 (fun H locs L2 => ?_)
  refine lv_icmp_eq (tgt := 948) X.1 X.2.1 dL_law_204 (by decide) (fun _ => ?_) (fun q => absurd rfl q)
  exact W.widen (by omega) (by omega) (kk _ _ _ L2)
set_option maxHeartbeats 4000000 in
theorem law_op_limit {p : Program} {e : Env} {s : State} {m : MethodId} {args : Array Value} {below : List Frame} {meth : Method} {c : Code} {H : Heap} {locs : List Loc} {cells slots : Nat} {Q : State → Prop} {ls : Array Slot} {G : HG} (l : Launch) {b b6 b7 L : Nat} {xs : Nat → Int32} {x3 : Int32} {z : ST} (O : LO p c s m G b b6 b7 L xs x3 z H locs ls) (hc : cells + 8 ≤ room_1.cells ∧ slots + 1040 ≤ room_1.slots) (kk : ∀ (z1 : ST) (H1 : Heap) (locs1 : List Loc), LI G s b6 b7 z1 z1 H1 locs1 → W p l e room_1 s m args below meth c H1 locs1 (cells + 8) (slots + 1040) Q (F0 m 948 ls [])) : W p l e room_1 s m args below meth c H locs cells slots Q (F0 m 209 ls []) := by
  obtain ⟨n, R, hd, k, cs, sk, pn, pt⟩ := z
  obtain ⟨X, hX, hbl, ⟨i1, i2, i3, i4⟩, L0, hl⟩ := O
  have hbA : ¬ A0 s b := Nat.not_le.mpr hbl
  refine lv_aload_n X.1 X.2.1 dL_law_209 rfl (lv_at hl 1 rfl) ?_
  refine lv_aload_n X.1 X.2.1 dL_law_210 rfl (lv_at hl 0 rfl) ?_
  refine lv_iload_n X.1 X.2.1 dL_law_211 rfl (lv_at hl 3 rfl) ?_
  refine lv_iconst (v := 1) X.1 X.2.1 dL_law_212 (by decide) ?_
  refine lv_iadd X.1 X.2.1 dL_law_213 ?_
  refine va_sld X.1 X.2.1 hX hbl hbA (li_x L0) i1 dL_law_214 ?_
  refine lv_aload_n X.1 X.2.1 dL_law_215 rfl (lv_at hl 0 rfl) ?_
  refine lv_iload_n X.1 X.2.1 dL_law_216 rfl (lv_at hl 3 rfl) ?_
  refine lv_iconst (v := 2) X.1 X.2.1 dL_law_217 (by decide) ?_
  refine lv_iadd X.1 X.2.1 dL_law_218 ?_
  refine va_sld X.1 X.2.1 hX hbl hbA (li_x L0) i2 dL_law_219 ?_
  refine lv_aload_n X.1 X.2.1 dL_law_220 rfl (lv_at hl 0 rfl) ?_
  refine lv_iload_n X.1 X.2.1 dL_law_221 rfl (lv_at hl 3 rfl) ?_
  refine lv_iconst (v := 3) X.1 X.2.1 dL_law_222 (by decide) ?_
  refine lv_iadd X.1 X.2.1 dL_law_223 ?_
  refine va_sld X.1 X.2.1 hX hbl hbA (li_x L0) i3 dL_law_224 ?_
  refine lv_aload_n X.1 X.2.1 dL_law_225 rfl (lv_at hl 0 rfl) ?_
  refine lv_iload_n X.1 X.2.1 dL_law_226 rfl (lv_at hl 3 rfl) ?_
  refine lv_iconst (v := 4) X.1 X.2.1 dL_law_227 (by decide) ?_
  refine lv_iadd X.1 X.2.1 dL_law_228 ?_
  refine va_sld X.1 X.2.1 hX hbl hbA (li_x L0) i4 dL_law_229 ?_
  refine lc_wi (As := [.int (xs (x3 + 1).toNatClampNeg), .int (xs (x3 + 2).toNatClampNeg), .int (xs (x3 + 3).toNatClampNeg), .int (xs (x3 + 4).toNatClampNeg)]) (rest := []) X L0 (fun r hp1 q => q) (fun A hp hA hO hz => c_X6_limit l G A hp H.size hA hO b6 n R hd k cs sk pn pt hz (xs (x3 + 1).toNatClampNeg) (xs (x3 + 2).toNatClampNeg) (xs (x3 + 3).toNatClampNeg) (xs (x3 + 4).toNatClampNeg)) mf_X6_limit tw_342 tw_343 tw_344 ⟨rfl, rfl, Nat.le_of_ble_eq_true rfl, Nat.le_of_ble_eq_true rfl⟩ hl.1 rfl rfl (Nat.le_of_ble_eq_true rfl) ⟨by omega, by omega⟩ dL_law_230 (fun H locs L1 => ?_)
  refine lv_aload_n X.1 X.2.1 dL_law_233 rfl (lv_at hl 2 rfl) ?_
  refine lv_aload_n X.1 X.2.1 dL_law_234 rfl (lv_at hl 0 rfl) ?_
  refine lv_iload_n X.1 X.2.1 dL_law_235 rfl (lv_at hl 3 rfl) ?_
  refine lv_iconst (v := 1) X.1 X.2.1 dL_law_236 (by decide) ?_
  refine lv_iadd X.1 X.2.1 dL_law_237 ?_
  refine va_sld X.1 X.2.1 hX hbl hbA (li_x L1) i1 dL_law_238 ?_
  refine lv_aload_n X.1 X.2.1 dL_law_239 rfl (lv_at hl 0 rfl) ?_
  refine lv_iload_n X.1 X.2.1 dL_law_240 rfl (lv_at hl 3 rfl) ?_
  refine lv_iconst (v := 2) X.1 X.2.1 dL_law_241 (by decide) ?_
  refine lv_iadd X.1 X.2.1 dL_law_242 ?_
  refine va_sld X.1 X.2.1 hX hbl hbA (li_x L1) i2 dL_law_243 ?_
  refine lv_aload_n X.1 X.2.1 dL_law_244 rfl (lv_at hl 0 rfl) ?_
  refine lv_iload_n X.1 X.2.1 dL_law_245 rfl (lv_at hl 3 rfl) ?_
  refine lv_iconst (v := 3) X.1 X.2.1 dL_law_246 (by decide) ?_
  refine lv_iadd X.1 X.2.1 dL_law_247 ?_
  refine va_sld X.1 X.2.1 hX hbl hbA (li_x L1) i3 dL_law_248 ?_
  refine lv_aload_n X.1 X.2.1 dL_law_249 rfl (lv_at hl 0 rfl) ?_
  refine lv_iload_n X.1 X.2.1 dL_law_250 rfl (lv_at hl 3 rfl) ?_
  refine lv_iconst (v := 4) X.1 X.2.1 dL_law_251 (by decide) ?_
  refine lv_iadd X.1 X.2.1 dL_law_252 ?_
  refine va_sld X.1 X.2.1 hX hbl hbA (li_x L1) i4 dL_law_253 ?_
  refine lr_wi (As := [.int (xs (x3 + 1).toNatClampNeg), .int (xs (x3 + 2).toNatClampNeg), .int (xs (x3 + 3).toNatClampNeg), .int (xs (x3 + 4).toNatClampNeg)]) (rest := [_]) X L1 (fun M r hp1 q => q) (fun A hp M sc ar sm hA hO _ hM hz => c_X7_limit l G A hp _ hA hO M sc ar sm hM n R hd k cs sk pn pt hz (xs (x3 + 1).toNatClampNeg) (xs (x3 + 2).toNatClampNeg) (xs (x3 + 3).toNatClampNeg) (xs (x3 + 4).toNatClampNeg)) mf_X7_limit tw_926 tw_927 tw_928 ⟨rfl, rfl, Nat.le_of_ble_eq_true rfl, Nat.le_of_ble_eq_true rfl⟩ hl.1 rfl rfl (Nat.le_of_ble_eq_true rfl) ⟨by omega, by omega⟩ dL_law_254 (fun H locs L2 => ?_)
  refine lv_icmp_eq (tgt := 948) X.1 X.2.1 dL_law_257 (by decide) (fun _ => ?_) (fun q => absurd rfl q)
  exact W.widen (by omega) (by omega) (kk _ _ _ L2)
set_option maxHeartbeats 4000000 in
theorem law_op_remove {p : Program} {e : Env} {s : State} {m : MethodId} {args : Array Value} {below : List Frame} {meth : Method} {c : Code} {H : Heap} {locs : List Loc} {cells slots : Nat} {Q : State → Prop} {ls : Array Slot} {G : HG} (l : Launch) {b b6 b7 L : Nat} {xs : Nat → Int32} {x3 : Int32} {z : ST} (O : LO p c s m G b b6 b7 L xs x3 z H locs ls) (hc : cells + 8 ≤ room_1.cells ∧ slots + 1040 ≤ room_1.slots) (kk : ∀ (z1 : ST) (H1 : Heap) (locs1 : List Loc), LI G s b6 b7 z1 z1 H1 locs1 → W p l e room_1 s m args below meth c H1 locs1 (cells + 8) (slots + 1040) Q (F0 m 948 ls [])) : W p l e room_1 s m args below meth c H locs cells slots Q (F0 m 262 ls []) := by
  obtain ⟨n, R, hd, k, cs, sk, pn, pt⟩ := z
  obtain ⟨X, hX, hbl, ⟨i1, i2, i3, i4⟩, L0, hl⟩ := O
  have hbA : ¬ A0 s b := Nat.not_le.mpr hbl
  refine lv_aload_n X.1 X.2.1 dL_law_262 rfl (lv_at hl 1 rfl) ?_
  refine lv_aload_n X.1 X.2.1 dL_law_263 rfl (lv_at hl 0 rfl) ?_
  refine lv_iload_n X.1 X.2.1 dL_law_264 rfl (lv_at hl 3 rfl) ?_
  refine lv_iconst (v := 1) X.1 X.2.1 dL_law_265 (by decide) ?_
  refine lv_iadd X.1 X.2.1 dL_law_266 ?_
  refine va_sld X.1 X.2.1 hX hbl hbA (li_x L0) i1 dL_law_267 ?_
  refine lc_wi (As := [.int (xs (x3 + 1).toNatClampNeg)]) (rest := []) X L0 (fun r hp1 q => q) (fun A hp hA hO hz => c_X6_remove l G A hp H.size hA hO b6 n R hd k cs sk pn pt hz (xs (x3 + 1).toNatClampNeg)) mf_X6_remove tw_389 tw_390 tw_391 ⟨rfl, rfl, Nat.le_of_ble_eq_true rfl, Nat.le_of_ble_eq_true rfl⟩ hl.1 rfl rfl (Nat.le_of_ble_eq_true rfl) ⟨by omega, by omega⟩ dL_law_268 (fun H locs L1 => ?_)
  refine lv_aload_n X.1 X.2.1 dL_law_271 rfl (lv_at hl 2 rfl) ?_
  refine lv_aload_n X.1 X.2.1 dL_law_272 rfl (lv_at hl 0 rfl) ?_
  refine lv_iload_n X.1 X.2.1 dL_law_273 rfl (lv_at hl 3 rfl) ?_
  refine lv_iconst (v := 1) X.1 X.2.1 dL_law_274 (by decide) ?_
  refine lv_iadd X.1 X.2.1 dL_law_275 ?_
  refine va_sld X.1 X.2.1 hX hbl hbA (li_x L1) i1 dL_law_276 ?_
  refine lr_wi (As := [.int (xs (x3 + 1).toNatClampNeg)]) (rest := [_]) X L1 (fun M r hp1 q => q) (fun A hp M sc ar sm hA hO _ hM hz => c_X7_remove l G A hp _ hA hO M sc ar sm hM n R hd k cs sk pn pt hz (xs (x3 + 1).toNatClampNeg)) mf_X7_remove tw_950 tw_951 tw_952 ⟨rfl, rfl, Nat.le_of_ble_eq_true rfl, Nat.le_of_ble_eq_true rfl⟩ hl.1 rfl rfl (Nat.le_of_ble_eq_true rfl) ⟨by omega, by omega⟩ dL_law_277 (fun H locs L2 => ?_)
  refine lv_icmp_eq (tgt := 948) X.1 X.2.1 dL_law_280 (by decide) (fun _ => ?_) (fun q => absurd rfl q)
  exact W.widen (by omega) (by omega) (kk _ _ _ L2)
set_option maxHeartbeats 4000000 in
theorem law_op_move {p : Program} {e : Env} {s : State} {m : MethodId} {args : Array Value} {below : List Frame} {meth : Method} {c : Code} {H : Heap} {locs : List Loc} {cells slots : Nat} {Q : State → Prop} {ls : Array Slot} {G : HG} (l : Launch) {b b6 b7 L : Nat} {xs : Nat → Int32} {x3 : Int32} {z : ST} (O : LO p c s m G b b6 b7 L xs x3 z H locs ls) (hc : cells + 8 ≤ room_1.cells ∧ slots + 1040 ≤ room_1.slots) (kk : ∀ (z1 : ST) (H1 : Heap) (locs1 : List Loc), LI G s b6 b7 z1 z1 H1 locs1 → W p l e room_1 s m args below meth c H1 locs1 (cells + 8) (slots + 1040) Q (F0 m 948 ls [])) : W p l e room_1 s m args below meth c H locs cells slots Q (F0 m 285 ls []) := by
  obtain ⟨n, R, hd, k, cs, sk, pn, pt⟩ := z
  obtain ⟨X, hX, hbl, ⟨i1, i2, i3, i4⟩, L0, hl⟩ := O
  have hbA : ¬ A0 s b := Nat.not_le.mpr hbl
  refine lv_aload_n X.1 X.2.1 dL_law_285 rfl (lv_at hl 1 rfl) ?_
  refine lv_aload_n X.1 X.2.1 dL_law_286 rfl (lv_at hl 0 rfl) ?_
  refine lv_iload_n X.1 X.2.1 dL_law_287 rfl (lv_at hl 3 rfl) ?_
  refine lv_iconst (v := 1) X.1 X.2.1 dL_law_288 (by decide) ?_
  refine lv_iadd X.1 X.2.1 dL_law_289 ?_
  refine va_sld X.1 X.2.1 hX hbl hbA (li_x L0) i1 dL_law_290 ?_
  refine lv_aload_n X.1 X.2.1 dL_law_291 rfl (lv_at hl 0 rfl) ?_
  refine lv_iload_n X.1 X.2.1 dL_law_292 rfl (lv_at hl 3 rfl) ?_
  refine lv_iconst (v := 2) X.1 X.2.1 dL_law_293 (by decide) ?_
  refine lv_iadd X.1 X.2.1 dL_law_294 ?_
  refine va_sld X.1 X.2.1 hX hbl hbA (li_x L0) i2 dL_law_295 ?_
  refine lc_wi (As := [.int (xs (x3 + 1).toNatClampNeg), .int (xs (x3 + 2).toNatClampNeg)]) (rest := []) X L0 (fun r hp1 q => q) (fun A hp hA hO hz => c_X6_move l G A hp H.size hA hO b6 n R hd k cs sk pn pt hz (xs (x3 + 1).toNatClampNeg) (xs (x3 + 2).toNatClampNeg)) mf_X6_move tw_402 tw_403 tw_404 ⟨rfl, rfl, Nat.le_of_ble_eq_true rfl, Nat.le_of_ble_eq_true rfl⟩ hl.1 rfl rfl (Nat.le_of_ble_eq_true rfl) ⟨by omega, by omega⟩ dL_law_296 (fun H locs L1 => ?_)
  refine lv_aload_n X.1 X.2.1 dL_law_299 rfl (lv_at hl 2 rfl) ?_
  refine lv_aload_n X.1 X.2.1 dL_law_300 rfl (lv_at hl 0 rfl) ?_
  refine lv_iload_n X.1 X.2.1 dL_law_301 rfl (lv_at hl 3 rfl) ?_
  refine lv_iconst (v := 1) X.1 X.2.1 dL_law_302 (by decide) ?_
  refine lv_iadd X.1 X.2.1 dL_law_303 ?_
  refine va_sld X.1 X.2.1 hX hbl hbA (li_x L1) i1 dL_law_304 ?_
  refine lv_aload_n X.1 X.2.1 dL_law_305 rfl (lv_at hl 0 rfl) ?_
  refine lv_iload_n X.1 X.2.1 dL_law_306 rfl (lv_at hl 3 rfl) ?_
  refine lv_iconst (v := 2) X.1 X.2.1 dL_law_307 (by decide) ?_
  refine lv_iadd X.1 X.2.1 dL_law_308 ?_
  refine va_sld X.1 X.2.1 hX hbl hbA (li_x L1) i2 dL_law_309 ?_
  refine lr_wi (As := [.int (xs (x3 + 1).toNatClampNeg), .int (xs (x3 + 2).toNatClampNeg)]) (rest := [_]) X L1 (fun M r hp1 q => q) (fun A hp M sc ar sm hA hO _ hM hz => c_X7_move l G A hp _ hA hO M sc ar sm hM n R hd k cs sk pn pt hz (xs (x3 + 1).toNatClampNeg) (xs (x3 + 2).toNatClampNeg)) mf_X7_move tw_958 tw_959 tw_960 ⟨rfl, rfl, Nat.le_of_ble_eq_true rfl, Nat.le_of_ble_eq_true rfl⟩ hl.1 rfl rfl (Nat.le_of_ble_eq_true rfl) ⟨by omega, by omega⟩ dL_law_310 (fun H locs L2 => ?_)
  refine lv_icmp_eq (tgt := 948) X.1 X.2.1 dL_law_313 (by decide) (fun _ => ?_) (fun q => absurd rfl q)
  exact W.widen (by omega) (by omega) (kk _ _ _ L2)
set_option maxHeartbeats 4000000 in
theorem law_op_part {p : Program} {e : Env} {s : State} {m : MethodId} {args : Array Value} {below : List Frame} {meth : Method} {c : Code} {H : Heap} {locs : List Loc} {cells slots : Nat} {Q : State → Prop} {ls : Array Slot} {G : HG} (l : Launch) {b b6 b7 L : Nat} {xs : Nat → Int32} {x3 : Int32} {z : ST} (O : LO p c s m G b b6 b7 L xs x3 z H locs ls) (hc : cells + 8 ≤ room_1.cells ∧ slots + 1040 ≤ room_1.slots) (kk : ∀ (z1 : ST) (H1 : Heap) (locs1 : List Loc), LI G s b6 b7 z1 z1 H1 locs1 → W p l e room_1 s m args below meth c H1 locs1 (cells + 8) (slots + 1040) Q (F0 m 948 ls [])) : W p l e room_1 s m args below meth c H locs cells slots Q (F0 m 318 ls []) := by
  obtain ⟨n, R, hd, k, cs, sk, pn, pt⟩ := z
  obtain ⟨X, hX, hbl, ⟨i1, i2, i3, i4⟩, L0, hl⟩ := O
  have hbA : ¬ A0 s b := Nat.not_le.mpr hbl
  refine lv_aload_n X.1 X.2.1 dL_law_318 rfl (lv_at hl 1 rfl) ?_
  refine lv_aload_n X.1 X.2.1 dL_law_319 rfl (lv_at hl 0 rfl) ?_
  refine lv_iload_n X.1 X.2.1 dL_law_320 rfl (lv_at hl 3 rfl) ?_
  refine lv_iconst (v := 1) X.1 X.2.1 dL_law_321 (by decide) ?_
  refine lv_iadd X.1 X.2.1 dL_law_322 ?_
  refine va_sld X.1 X.2.1 hX hbl hbA (li_x L0) i1 dL_law_323 ?_
  refine lv_aload_n X.1 X.2.1 dL_law_324 rfl (lv_at hl 0 rfl) ?_
  refine lv_iload_n X.1 X.2.1 dL_law_325 rfl (lv_at hl 3 rfl) ?_
  refine lv_iconst (v := 2) X.1 X.2.1 dL_law_326 (by decide) ?_
  refine lv_iadd X.1 X.2.1 dL_law_327 ?_
  refine va_sld X.1 X.2.1 hX hbl hbA (li_x L0) i2 dL_law_328 ?_
  refine lc_ri (As := [.int (xs (x3 + 1).toNatClampNeg), .int (xs (x3 + 2).toNatClampNeg)]) (rest := []) X L0 (fun hp hz => c_X6_part l G hp b6 n R hd k cs sk pn pt hz (xs (x3 + 1).toNatClampNeg) (xs (x3 + 2).toNatClampNeg)) mf_X6_part tw_414 tw_415 tw_416 ⟨rfl, rfl, Nat.le_of_ble_eq_true rfl, Nat.le_of_ble_eq_true rfl⟩ hl.1 rfl rfl (Nat.le_of_ble_eq_true rfl) ⟨by omega, by omega⟩ dL_law_329 ?_
  refine lv_aload_n X.1 X.2.1 dL_law_332 rfl (lv_at hl 2 rfl) ?_
  refine lv_aload_n X.1 X.2.1 dL_law_333 rfl (lv_at hl 0 rfl) ?_
  refine lv_iload_n X.1 X.2.1 dL_law_334 rfl (lv_at hl 3 rfl) ?_
  refine lv_iconst (v := 1) X.1 X.2.1 dL_law_335 (by decide) ?_
  refine lv_iadd X.1 X.2.1 dL_law_336 ?_
  refine va_sld X.1 X.2.1 hX hbl hbA (li_x L0) i1 dL_law_337 ?_
  refine lv_aload_n X.1 X.2.1 dL_law_338 rfl (lv_at hl 0 rfl) ?_
  refine lv_iload_n X.1 X.2.1 dL_law_339 rfl (lv_at hl 3 rfl) ?_
  refine lv_iconst (v := 2) X.1 X.2.1 dL_law_340 (by decide) ?_
  refine lv_iadd X.1 X.2.1 dL_law_341 ?_
  refine va_sld X.1 X.2.1 hX hbl hbA (li_x L0) i2 dL_law_342 ?_
  refine lr_ri (As := [.int (xs (x3 + 1).toNatClampNeg), .int (xs (x3 + 2).toNatClampNeg)]) (rest := [_]) X L0 (fun hp M sc ar sm _ hM hz => c_X7_part l G hp M sc ar sm hM n R hz.2.1 (xs (x3 + 1).toNatClampNeg) (xs (x3 + 2).toNatClampNeg)) mf_X7_part tw_962 tw_963 tw_964 ⟨rfl, rfl, Nat.le_of_ble_eq_true rfl, Nat.le_of_ble_eq_true rfl⟩ hl.1 rfl rfl (Nat.le_of_ble_eq_true rfl) ⟨by omega, by omega⟩ dL_law_343 ?_
  refine lv_icmp_eq (tgt := 948) X.1 X.2.1 dL_law_346 (by decide) (fun _ => ?_) (fun q => absurd rfl q)
  exact W.widen (by omega) (by omega) (kk _ _ _ L0)
set_option maxHeartbeats 4000000 in
theorem law_op_give {p : Program} {e : Env} {s : State} {m : MethodId} {args : Array Value} {below : List Frame} {meth : Method} {c : Code} {H : Heap} {locs : List Loc} {cells slots : Nat} {Q : State → Prop} {ls : Array Slot} {G : HG} (l : Launch) {b b6 b7 L : Nat} {xs : Nat → Int32} {x3 : Int32} {z : ST} (O : LO p c s m G b b6 b7 L xs x3 z H locs ls) (hc : cells + 8 ≤ room_1.cells ∧ slots + 1040 ≤ room_1.slots) (kk : ∀ (z1 : ST) (H1 : Heap) (locs1 : List Loc), LI G s b6 b7 z1 z1 H1 locs1 → W p l e room_1 s m args below meth c H1 locs1 (cells + 8) (slots + 1040) Q (F0 m 948 ls [])) : W p l e room_1 s m args below meth c H locs cells slots Q (F0 m 351 ls []) := by
  obtain ⟨n, R, hd, k, cs, sk, pn, pt⟩ := z
  obtain ⟨X, hX, hbl, ⟨i1, i2, i3, i4⟩, L0, hl⟩ := O
  have hbA : ¬ A0 s b := Nat.not_le.mpr hbl
  refine lv_aload_n X.1 X.2.1 dL_law_351 rfl (lv_at hl 1 rfl) ?_
  refine lv_aload_n X.1 X.2.1 dL_law_352 rfl (lv_at hl 0 rfl) ?_
  refine lv_iload_n X.1 X.2.1 dL_law_353 rfl (lv_at hl 3 rfl) ?_
  refine lv_iconst (v := 1) X.1 X.2.1 dL_law_354 (by decide) ?_
  refine lv_iadd X.1 X.2.1 dL_law_355 ?_
  refine va_sld X.1 X.2.1 hX hbl hbA (li_x L0) i1 dL_law_356 ?_
  refine lv_aload_n X.1 X.2.1 dL_law_357 rfl (lv_at hl 0 rfl) ?_
  refine lv_iload_n X.1 X.2.1 dL_law_358 rfl (lv_at hl 3 rfl) ?_
  refine lv_iconst (v := 2) X.1 X.2.1 dL_law_359 (by decide) ?_
  refine lv_iadd X.1 X.2.1 dL_law_360 ?_
  refine va_sld X.1 X.2.1 hX hbl hbA (li_x L0) i2 dL_law_361 ?_
  refine lc_wi (As := [.int (xs (x3 + 1).toNatClampNeg), .int (xs (x3 + 2).toNatClampNeg)]) (rest := []) X L0 (fun r hp1 q => q) (fun A hp hA hO hz => c_X6_give l G A hp H.size hA hO b6 n R hd k cs sk pn pt hz (xs (x3 + 1).toNatClampNeg) (xs (x3 + 2).toNatClampNeg)) mf_X6_give tw_422 tw_423 tw_424 ⟨rfl, rfl, Nat.le_of_ble_eq_true rfl, Nat.le_of_ble_eq_true rfl⟩ hl.1 rfl rfl (Nat.le_of_ble_eq_true rfl) ⟨by omega, by omega⟩ dL_law_362 (fun H locs L1 => ?_)
  refine lv_aload_n X.1 X.2.1 dL_law_365 rfl (lv_at hl 2 rfl) ?_
  refine lv_aload_n X.1 X.2.1 dL_law_366 rfl (lv_at hl 0 rfl) ?_
  refine lv_iload_n X.1 X.2.1 dL_law_367 rfl (lv_at hl 3 rfl) ?_
  refine lv_iconst (v := 1) X.1 X.2.1 dL_law_368 (by decide) ?_
  refine lv_iadd X.1 X.2.1 dL_law_369 ?_
  refine va_sld X.1 X.2.1 hX hbl hbA (li_x L1) i1 dL_law_370 ?_
  refine lv_aload_n X.1 X.2.1 dL_law_371 rfl (lv_at hl 0 rfl) ?_
  refine lv_iload_n X.1 X.2.1 dL_law_372 rfl (lv_at hl 3 rfl) ?_
  refine lv_iconst (v := 2) X.1 X.2.1 dL_law_373 (by decide) ?_
  refine lv_iadd X.1 X.2.1 dL_law_374 ?_
  refine va_sld X.1 X.2.1 hX hbl hbA (li_x L1) i2 dL_law_375 ?_
  refine lr_wi (As := [.int (xs (x3 + 1).toNatClampNeg), .int (xs (x3 + 2).toNatClampNeg)]) (rest := [_]) X L1 (fun M r hp1 q => q) (fun A hp M sc ar sm hA hO _ hM hz => c_X7_give l G A hp _ hA hO M sc ar sm hM n R hd k cs sk pn pt hz (xs (x3 + 1).toNatClampNeg) (xs (x3 + 2).toNatClampNeg)) mf_X7_give tw_966 tw_967 tw_968 ⟨rfl, rfl, Nat.le_of_ble_eq_true rfl, Nat.le_of_ble_eq_true rfl⟩ hl.1 rfl rfl (Nat.le_of_ble_eq_true rfl) ⟨by omega, by omega⟩ dL_law_376 (fun H locs L2 => ?_)
  refine lv_icmp_eq (tgt := 948) X.1 X.2.1 dL_law_379 (by decide) (fun _ => ?_) (fun q => absurd rfl q)
  exact W.widen (by omega) (by omega) (kk _ _ _ L2)
set_option maxHeartbeats 4000000 in
theorem law_op_draw {p : Program} {e : Env} {s : State} {m : MethodId} {args : Array Value} {below : List Frame} {meth : Method} {c : Code} {H : Heap} {locs : List Loc} {cells slots : Nat} {Q : State → Prop} {ls : Array Slot} {G : HG} (l : Launch) {b b6 b7 L : Nat} {xs : Nat → Int32} {x3 : Int32} {z : ST} (O : LO p c s m G b b6 b7 L xs x3 z H locs ls) (hc : cells + 8 ≤ room_1.cells ∧ slots + 1040 ≤ room_1.slots) (kk : ∀ (z1 : ST) (H1 : Heap) (locs1 : List Loc), LI G s b6 b7 z1 z1 H1 locs1 → W p l e room_1 s m args below meth c H1 locs1 (cells + 8) (slots + 1040) Q (F0 m 948 ls [])) : W p l e room_1 s m args below meth c H locs cells slots Q (F0 m 384 ls []) := by
  obtain ⟨n, R, hd, k, cs, sk, pn, pt⟩ := z
  obtain ⟨X, hX, hbl, ⟨i1, i2, i3, i4⟩, L0, hl⟩ := O
  have hbA : ¬ A0 s b := Nat.not_le.mpr hbl
  refine lv_aload_n X.1 X.2.1 dL_law_384 rfl (lv_at hl 1 rfl) ?_
  refine lv_aload_n X.1 X.2.1 dL_law_385 rfl (lv_at hl 0 rfl) ?_
  refine lv_iload_n X.1 X.2.1 dL_law_386 rfl (lv_at hl 3 rfl) ?_
  refine lv_iconst (v := 1) X.1 X.2.1 dL_law_387 (by decide) ?_
  refine lv_iadd X.1 X.2.1 dL_law_388 ?_
  refine va_sld X.1 X.2.1 hX hbl hbA (li_x L0) i1 dL_law_389 ?_
  refine lc_wi (As := [.int (xs (x3 + 1).toNatClampNeg)]) (rest := []) X L0 (fun r hp1 q => q) (fun A hp hA hO hz => c_X6_draw l G A hp H.size hA hO b6 n R hd k cs sk pn pt hz (xs (x3 + 1).toNatClampNeg)) mf_X6_draw tw_440 tw_441 tw_442 ⟨rfl, rfl, Nat.le_of_ble_eq_true rfl, Nat.le_of_ble_eq_true rfl⟩ hl.1 rfl rfl (Nat.le_of_ble_eq_true rfl) ⟨by omega, by omega⟩ dL_law_390 (fun H locs L1 => ?_)
  refine lv_aload_n X.1 X.2.1 dL_law_393 rfl (lv_at hl 2 rfl) ?_
  refine lv_aload_n X.1 X.2.1 dL_law_394 rfl (lv_at hl 0 rfl) ?_
  refine lv_iload_n X.1 X.2.1 dL_law_395 rfl (lv_at hl 3 rfl) ?_
  refine lv_iconst (v := 1) X.1 X.2.1 dL_law_396 (by decide) ?_
  refine lv_iadd X.1 X.2.1 dL_law_397 ?_
  refine va_sld X.1 X.2.1 hX hbl hbA (li_x L1) i1 dL_law_398 ?_
  refine lr_wi (As := [.int (xs (x3 + 1).toNatClampNeg)]) (rest := [_]) X L1 (fun M r hp1 q => q) (fun A hp M sc ar sm hA hO _ hM hz => c_X7_draw l G A hp _ hA hO M sc ar sm hM n R hd k cs sk pn pt hz (xs (x3 + 1).toNatClampNeg)) mf_X7_draw tw_981 tw_982 tw_983 ⟨rfl, rfl, Nat.le_of_ble_eq_true rfl, Nat.le_of_ble_eq_true rfl⟩ hl.1 rfl rfl (Nat.le_of_ble_eq_true rfl) ⟨by omega, by omega⟩ dL_law_399 (fun H locs L2 => ?_)
  refine lv_icmp_eq (tgt := 948) X.1 X.2.1 dL_law_402 (by decide) (fun _ => ?_) (fun q => absurd rfl q)
  exact W.widen (by omega) (by omega) (kk _ _ _ L2)
set_option maxHeartbeats 4000000 in
theorem law_op_hand {p : Program} {e : Env} {s : State} {m : MethodId} {args : Array Value} {below : List Frame} {meth : Method} {c : Code} {H : Heap} {locs : List Loc} {cells slots : Nat} {Q : State → Prop} {ls : Array Slot} {G : HG} (l : Launch) {b b6 b7 L : Nat} {xs : Nat → Int32} {x3 : Int32} {z : ST} (O : LO p c s m G b b6 b7 L xs x3 z H locs ls) (hc : cells + 8 ≤ room_1.cells ∧ slots + 1040 ≤ room_1.slots) (kk : ∀ (z1 : ST) (H1 : Heap) (locs1 : List Loc), LI G s b6 b7 z1 z1 H1 locs1 → W p l e room_1 s m args below meth c H1 locs1 (cells + 8) (slots + 1040) Q (F0 m 948 ls [])) : W p l e room_1 s m args below meth c H locs cells slots Q (F0 m 407 ls []) := by
  obtain ⟨n, R, hd, k, cs, sk, pn, pt⟩ := z
  obtain ⟨X, hX, hbl, ⟨i1, i2, i3, i4⟩, L0, hl⟩ := O
  have hbA : ¬ A0 s b := Nat.not_le.mpr hbl
  refine lv_aload_n X.1 X.2.1 dL_law_407 rfl (lv_at hl 1 rfl) ?_
  refine lv_aload_n X.1 X.2.1 dL_law_408 rfl (lv_at hl 0 rfl) ?_
  refine lv_iload_n X.1 X.2.1 dL_law_409 rfl (lv_at hl 3 rfl) ?_
  refine lv_iconst (v := 1) X.1 X.2.1 dL_law_410 (by decide) ?_
  refine lv_iadd X.1 X.2.1 dL_law_411 ?_
  refine va_sld X.1 X.2.1 hX hbl hbA (li_x L0) i1 dL_law_412 ?_
  refine lv_aload_n X.1 X.2.1 dL_law_413 rfl (lv_at hl 0 rfl) ?_
  refine lv_iload_n X.1 X.2.1 dL_law_414 rfl (lv_at hl 3 rfl) ?_
  refine lv_iconst (v := 2) X.1 X.2.1 dL_law_415 (by decide) ?_
  refine lv_iadd X.1 X.2.1 dL_law_416 ?_
  refine va_sld X.1 X.2.1 hX hbl hbA (li_x L0) i2 dL_law_417 ?_
  refine lc_ri (As := [.int (xs (x3 + 1).toNatClampNeg), .int (xs (x3 + 2).toNatClampNeg)]) (rest := []) X L0 (fun hp hz => c_X6_hand l G hp b6 n R hd k cs sk pn pt hz (xs (x3 + 1).toNatClampNeg) (xs (x3 + 2).toNatClampNeg)) mf_X6_hand tw_450 tw_451 tw_452 ⟨rfl, rfl, Nat.le_of_ble_eq_true rfl, Nat.le_of_ble_eq_true rfl⟩ hl.1 rfl rfl (Nat.le_of_ble_eq_true rfl) ⟨by omega, by omega⟩ dL_law_418 ?_
  refine lv_aload_n X.1 X.2.1 dL_law_421 rfl (lv_at hl 2 rfl) ?_
  refine lv_aload_n X.1 X.2.1 dL_law_422 rfl (lv_at hl 0 rfl) ?_
  refine lv_iload_n X.1 X.2.1 dL_law_423 rfl (lv_at hl 3 rfl) ?_
  refine lv_iconst (v := 1) X.1 X.2.1 dL_law_424 (by decide) ?_
  refine lv_iadd X.1 X.2.1 dL_law_425 ?_
  refine va_sld X.1 X.2.1 hX hbl hbA (li_x L0) i1 dL_law_426 ?_
  refine lv_aload_n X.1 X.2.1 dL_law_427 rfl (lv_at hl 0 rfl) ?_
  refine lv_iload_n X.1 X.2.1 dL_law_428 rfl (lv_at hl 3 rfl) ?_
  refine lv_iconst (v := 2) X.1 X.2.1 dL_law_429 (by decide) ?_
  refine lv_iadd X.1 X.2.1 dL_law_430 ?_
  refine va_sld X.1 X.2.1 hX hbl hbA (li_x L0) i2 dL_law_431 ?_
  refine lr_ri (As := [.int (xs (x3 + 1).toNatClampNeg), .int (xs (x3 + 2).toNatClampNeg)]) (rest := [_]) X L0 (fun hp M sc ar sm _ hM hz => c_X7_hand l G hp M sc ar sm hM hz.1 hd hz.2.2.1 (xs (x3 + 1).toNatClampNeg) (xs (x3 + 2).toNatClampNeg)) mf_X7_hand tw_990 tw_991 tw_992 ⟨rfl, rfl, Nat.le_of_ble_eq_true rfl, Nat.le_of_ble_eq_true rfl⟩ hl.1 rfl rfl (Nat.le_of_ble_eq_true rfl) ⟨by omega, by omega⟩ dL_law_432 ?_
  refine lv_icmp_eq (tgt := 948) X.1 X.2.1 dL_law_435 (by decide) (fun _ => ?_) (fun q => absurd rfl q)
  exact W.widen (by omega) (by omega) (kk _ _ _ L0)
set_option maxHeartbeats 4000000 in
theorem law_op_begin {p : Program} {e : Env} {s : State} {m : MethodId} {args : Array Value} {below : List Frame} {meth : Method} {c : Code} {H : Heap} {locs : List Loc} {cells slots : Nat} {Q : State → Prop} {ls : Array Slot} {G : HG} (l : Launch) {b b6 b7 L : Nat} {xs : Nat → Int32} {x3 : Int32} {z : ST} (O : LO p c s m G b b6 b7 L xs x3 z H locs ls) (hc : cells + 8 ≤ room_1.cells ∧ slots + 1040 ≤ room_1.slots) (kk : ∀ (z1 : ST) (H1 : Heap) (locs1 : List Loc), LI G s b6 b7 z1 z1 H1 locs1 → W p l e room_1 s m args below meth c H1 locs1 (cells + 8) (slots + 1040) Q (F0 m 948 ls [])) : W p l e room_1 s m args below meth c H locs cells slots Q (F0 m 440 ls []) := by
  obtain ⟨n, R, hd, k, cs, sk, pn, pt⟩ := z
  obtain ⟨X, hX, hbl, ⟨i1, i2, i3, i4⟩, L0, hl⟩ := O
  have hbA : ¬ A0 s b := Nat.not_le.mpr hbl
  refine lv_aload_n X.1 X.2.1 dL_law_440 rfl (lv_at hl 1 rfl) ?_
  refine lc_wi (As := []) (rest := []) X L0 (fun r hp1 q => q) (fun A hp hA hO hz => c_X6_begin l G A hp H.size hA hO b6 n R hd k cs sk pn pt hz ) mf_X6_begin tw_457 tw_458 tw_459 ⟨rfl, rfl, Nat.le_of_ble_eq_true rfl, Nat.le_of_ble_eq_true rfl⟩ hl.1 rfl rfl (Nat.le_of_ble_eq_true rfl) ⟨by omega, by omega⟩ dL_law_441 (fun H locs L1 => ?_)
  refine lv_aload_n X.1 X.2.1 dL_law_444 rfl (lv_at hl 2 rfl) ?_
  refine lr_wi (As := []) (rest := [_]) X L1 (fun M r hp1 q => q) (fun A hp M sc ar sm hA hO _ hM hz => c_X7_begin l G A hp _ hA hO M sc ar sm hM n R hd k cs sk pn pt hz ) mf_X7_begin tw_994 tw_995 tw_996 ⟨rfl, rfl, Nat.le_of_ble_eq_true rfl, Nat.le_of_ble_eq_true rfl⟩ hl.1 rfl rfl (Nat.le_of_ble_eq_true rfl) ⟨by omega, by omega⟩ dL_law_445 (fun H locs L2 => ?_)
  refine lv_icmp_eq (tgt := 948) X.1 X.2.1 dL_law_448 (by decide) (fun _ => ?_) (fun q => absurd rfl q)
  exact W.widen (by omega) (by omega) (kk _ _ _ L2)
set_option maxHeartbeats 4000000 in
theorem law_op_call {p : Program} {e : Env} {s : State} {m : MethodId} {args : Array Value} {below : List Frame} {meth : Method} {c : Code} {H : Heap} {locs : List Loc} {cells slots : Nat} {Q : State → Prop} {ls : Array Slot} {G : HG} (l : Launch) {b b6 b7 L : Nat} {xs : Nat → Int32} {x3 : Int32} {z : ST} (O : LO p c s m G b b6 b7 L xs x3 z H locs ls) (hc : cells + 8 ≤ room_1.cells ∧ slots + 1040 ≤ room_1.slots) (kk : ∀ (z1 : ST) (H1 : Heap) (locs1 : List Loc), LI G s b6 b7 z1 z1 H1 locs1 → W p l e room_1 s m args below meth c H1 locs1 (cells + 8) (slots + 1040) Q (F0 m 948 ls [])) : W p l e room_1 s m args below meth c H locs cells slots Q (F0 m 453 ls []) := by
  obtain ⟨n, R, hd, k, cs, sk, pn, pt⟩ := z
  obtain ⟨X, hX, hbl, ⟨i1, i2, i3, i4⟩, L0, hl⟩ := O
  have hbA : ¬ A0 s b := Nat.not_le.mpr hbl
  refine lv_aload_n X.1 X.2.1 dL_law_453 rfl (lv_at hl 1 rfl) ?_
  refine lc_wi (As := []) (rest := []) X L0 (fun r hp1 q => q) (fun A hp hA hO hz => c_X6_call l G A hp H.size hA hO b6 n R hd k cs sk pn pt hz ) mf_X6_call tw_461 tw_462 tw_463 ⟨rfl, rfl, Nat.le_of_ble_eq_true rfl, Nat.le_of_ble_eq_true rfl⟩ hl.1 rfl rfl (Nat.le_of_ble_eq_true rfl) ⟨by omega, by omega⟩ dL_law_454 (fun H locs L1 => ?_)
  refine lv_aload_n X.1 X.2.1 dL_law_457 rfl (lv_at hl 2 rfl) ?_
  refine lr_wi (As := []) (rest := [_]) X L1 (fun M r hp1 q => q) (fun A hp M sc ar sm hA hO _ hM hz => c_X7_call l G A hp _ hA hO M sc ar sm hM n R hd k cs sk pn pt hz ) mf_X7_call tw_998 tw_999 tw_1000 ⟨rfl, rfl, Nat.le_of_ble_eq_true rfl, Nat.le_of_ble_eq_true rfl⟩ hl.1 rfl rfl (Nat.le_of_ble_eq_true rfl) ⟨by omega, by omega⟩ dL_law_458 (fun H locs L2 => ?_)
  refine lv_icmp_eq (tgt := 948) X.1 X.2.1 dL_law_461 (by decide) (fun _ => ?_) (fun q => absurd rfl q)
  exact W.widen (by omega) (by omega) (kk _ _ _ L2)
set_option maxHeartbeats 4000000 in
theorem law_op_make {p : Program} {e : Env} {s : State} {m : MethodId} {args : Array Value} {below : List Frame} {meth : Method} {c : Code} {H : Heap} {locs : List Loc} {cells slots : Nat} {Q : State → Prop} {ls : Array Slot} {G : HG} (l : Launch) {b b6 b7 L : Nat} {xs : Nat → Int32} {x3 : Int32} {z : ST} (O : LO p c s m G b b6 b7 L xs x3 z H locs ls) (hc : cells + 8 ≤ room_1.cells ∧ slots + 1040 ≤ room_1.slots) (kk : ∀ (z1 : ST) (H1 : Heap) (locs1 : List Loc), LI G s b6 b7 z1 z1 H1 locs1 → W p l e room_1 s m args below meth c H1 locs1 (cells + 8) (slots + 1040) Q (F0 m 948 ls [])) : W p l e room_1 s m args below meth c H locs cells slots Q (F0 m 466 ls []) := by
  obtain ⟨n, R, hd, k, cs, sk, pn, pt⟩ := z
  obtain ⟨X, hX, hbl, ⟨i1, i2, i3, i4⟩, L0, hl⟩ := O
  have hbA : ¬ A0 s b := Nat.not_le.mpr hbl
  have huq : UQ n R := li_uq L0
  refine lv_aload_n X.1 X.2.1 dL_law_466 rfl (lv_at hl 1 rfl) ?_
  refine lv_aload_n X.1 X.2.1 dL_law_467 rfl (lv_at hl 0 rfl) ?_
  refine lv_iload_n X.1 X.2.1 dL_law_468 rfl (lv_at hl 3 rfl) ?_
  refine lv_iconst (v := 1) X.1 X.2.1 dL_law_469 (by decide) ?_
  refine lv_iadd X.1 X.2.1 dL_law_470 ?_
  refine va_sld X.1 X.2.1 hX hbl hbA (li_x L0) i1 dL_law_471 ?_
  refine lc_wi (As := [.int (xs (x3 + 1).toNatClampNeg)]) (rest := []) X L0 (fun r hp1 q => q) (fun A hp hA hO hz => c_X6_make l G A hp H.size hA hO b6 n R hd k cs sk pn pt hz (xs (x3 + 1).toNatClampNeg)) mf_X6_make tw_512 tw_513 tw_514 ⟨rfl, rfl, Nat.le_of_ble_eq_true rfl, Nat.le_of_ble_eq_true rfl⟩ hl.1 rfl rfl (Nat.le_of_ble_eq_true rfl) ⟨by omega, by omega⟩ dL_law_472 (fun H locs L1 => ?_)
  refine lv_aload_n X.1 X.2.1 dL_law_475 rfl (lv_at hl 2 rfl) ?_
  refine lv_aload_n X.1 X.2.1 dL_law_476 rfl (lv_at hl 0 rfl) ?_
  refine lv_iload_n X.1 X.2.1 dL_law_477 rfl (lv_at hl 3 rfl) ?_
  refine lv_iconst (v := 1) X.1 X.2.1 dL_law_478 (by decide) ?_
  refine lv_iadd X.1 X.2.1 dL_law_479 ?_
  refine va_sld X.1 X.2.1 hX hbl hbA (li_x L1) i1 dL_law_480 ?_
  refine lr_wi (As := [.int (xs (x3 + 1).toNatClampNeg)]) (rest := [_]) X L1 (fun M r hp1 q => q) (fun A hp M sc ar sm hA hO _ hM hz => c_X7_make l G A hp _ hA hO M sc ar sm hM n R hd k cs sk pn pt hz (xs (x3 + 1).toNatClampNeg) huq) mf_X7_make tw_1018 tw_1019 tw_1020 ⟨rfl, rfl, Nat.le_of_ble_eq_true rfl, Nat.le_of_ble_eq_true rfl⟩ hl.1 rfl rfl (Nat.le_of_ble_eq_true rfl) ⟨by omega, by omega⟩ dL_law_481 (fun H locs L2 => ?_)
  refine lv_icmp_eq (tgt := 948) X.1 X.2.1 dL_law_484 (by decide) (fun _ => ?_) (fun q => absurd rfl q)
  exact W.widen (by omega) (by omega) (kk _ _ _ L2)
set_option maxHeartbeats 4000000 in
theorem law_op_back {p : Program} {e : Env} {s : State} {m : MethodId} {args : Array Value} {below : List Frame} {meth : Method} {c : Code} {H : Heap} {locs : List Loc} {cells slots : Nat} {Q : State → Prop} {ls : Array Slot} {G : HG} (l : Launch) {b b6 b7 L : Nat} {xs : Nat → Int32} {x3 : Int32} {z : ST} (O : LO p c s m G b b6 b7 L xs x3 z H locs ls) (hc : cells + 8 ≤ room_1.cells ∧ slots + 1040 ≤ room_1.slots) (kk : ∀ (z1 : ST) (H1 : Heap) (locs1 : List Loc), LI G s b6 b7 z1 z1 H1 locs1 → W p l e room_1 s m args below meth c H1 locs1 (cells + 8) (slots + 1040) Q (F0 m 948 ls [])) : W p l e room_1 s m args below meth c H locs cells slots Q (F0 m 489 ls []) := by
  obtain ⟨n, R, hd, k, cs, sk, pn, pt⟩ := z
  obtain ⟨X, hX, hbl, ⟨i1, i2, i3, i4⟩, L0, hl⟩ := O
  have hbA : ¬ A0 s b := Nat.not_le.mpr hbl
  refine lv_aload_n X.1 X.2.1 dL_law_489 rfl (lv_at hl 1 rfl) ?_
  refine lc_wi (As := []) (rest := []) X L0 (fun r hp1 q => q) (fun A hp hA hO hz => c_X6_back l G A hp H.size hA hO b6 n R hd k cs sk pn pt hz ) mf_X6_back tw_520 tw_521 tw_522 ⟨rfl, rfl, Nat.le_of_ble_eq_true rfl, Nat.le_of_ble_eq_true rfl⟩ hl.1 rfl rfl (Nat.le_of_ble_eq_true rfl) ⟨by omega, by omega⟩ dL_law_490 (fun H locs L1 => ?_)
  refine lv_aload_n X.1 X.2.1 dL_law_493 rfl (lv_at hl 2 rfl) ?_
  refine lr_wi (As := []) (rest := [_]) X L1 (fun M r hp1 q => q) (fun A hp M sc ar sm hA hO _ hM hz => c_X7_back l G A hp _ hA hO M sc ar sm hM n R hd k cs sk pn pt hz ) mf_X7_back tw_1022 tw_1023 tw_1024 ⟨rfl, rfl, Nat.le_of_ble_eq_true rfl, Nat.le_of_ble_eq_true rfl⟩ hl.1 rfl rfl (Nat.le_of_ble_eq_true rfl) ⟨by omega, by omega⟩ dL_law_494 (fun H locs L2 => ?_)
  refine lv_icmp_eq (tgt := 948) X.1 X.2.1 dL_law_497 (by decide) (fun _ => ?_) (fun q => absurd rfl q)
  exact W.widen (by omega) (by omega) (kk _ _ _ L2)
set_option maxHeartbeats 4000000 in
theorem law_op_made {p : Program} {e : Env} {s : State} {m : MethodId} {args : Array Value} {below : List Frame} {meth : Method} {c : Code} {H : Heap} {locs : List Loc} {cells slots : Nat} {Q : State → Prop} {ls : Array Slot} {G : HG} (l : Launch) {b b6 b7 L : Nat} {xs : Nat → Int32} {x3 : Int32} {z : ST} (O : LO p c s m G b b6 b7 L xs x3 z H locs ls) (hc : cells + 8 ≤ room_1.cells ∧ slots + 1040 ≤ room_1.slots) (kk : ∀ (z1 : ST) (H1 : Heap) (locs1 : List Loc), LI G s b6 b7 z1 z1 H1 locs1 → W p l e room_1 s m args below meth c H1 locs1 (cells + 8) (slots + 1040) Q (F0 m 948 ls [])) : W p l e room_1 s m args below meth c H locs cells slots Q (F0 m 502 ls []) := by
  obtain ⟨n, R, hd, k, cs, sk, pn, pt⟩ := z
  obtain ⟨X, hX, hbl, ⟨i1, i2, i3, i4⟩, L0, hl⟩ := O
  have hbA : ¬ A0 s b := Nat.not_le.mpr hbl
  refine lv_aload_n X.1 X.2.1 dL_law_502 rfl (lv_at hl 1 rfl) ?_
  refine lv_aload_n X.1 X.2.1 dL_law_503 rfl (lv_at hl 0 rfl) ?_
  refine lv_iload_n X.1 X.2.1 dL_law_504 rfl (lv_at hl 3 rfl) ?_
  refine lv_iconst (v := 1) X.1 X.2.1 dL_law_505 (by decide) ?_
  refine lv_iadd X.1 X.2.1 dL_law_506 ?_
  refine va_sld X.1 X.2.1 hX hbl hbA (li_x L0) i1 dL_law_507 ?_
  refine lv_aload_n X.1 X.2.1 dL_law_508 rfl (lv_at hl 0 rfl) ?_
  refine lv_iload_n X.1 X.2.1 dL_law_509 rfl (lv_at hl 3 rfl) ?_
  refine lv_iconst (v := 2) X.1 X.2.1 dL_law_510 (by decide) ?_
  refine lv_iadd X.1 X.2.1 dL_law_511 ?_
  refine va_sld X.1 X.2.1 hX hbl hbA (li_x L0) i2 dL_law_512 ?_
  refine lc_ri (As := [.int (xs (x3 + 1).toNatClampNeg), .int (xs (x3 + 2).toNatClampNeg)]) (rest := []) X L0 (fun hp hz => c_X6_made l G hp b6 n R hd k cs sk pn pt hz (xs (x3 + 1).toNatClampNeg) (xs (x3 + 2).toNatClampNeg)) mf_X6_made tw_529 tw_530 tw_531 ⟨rfl, rfl, Nat.le_of_ble_eq_true rfl, Nat.le_of_ble_eq_true rfl⟩ hl.1 rfl rfl (Nat.le_of_ble_eq_true rfl) ⟨by omega, by omega⟩ dL_law_513 ?_
  refine lv_aload_n X.1 X.2.1 dL_law_516 rfl (lv_at hl 2 rfl) ?_
  refine lv_aload_n X.1 X.2.1 dL_law_517 rfl (lv_at hl 0 rfl) ?_
  refine lv_iload_n X.1 X.2.1 dL_law_518 rfl (lv_at hl 3 rfl) ?_
  refine lv_iconst (v := 1) X.1 X.2.1 dL_law_519 (by decide) ?_
  refine lv_iadd X.1 X.2.1 dL_law_520 ?_
  refine va_sld X.1 X.2.1 hX hbl hbA (li_x L0) i1 dL_law_521 ?_
  refine lv_aload_n X.1 X.2.1 dL_law_522 rfl (lv_at hl 0 rfl) ?_
  refine lv_iload_n X.1 X.2.1 dL_law_523 rfl (lv_at hl 3 rfl) ?_
  refine lv_iconst (v := 2) X.1 X.2.1 dL_law_524 (by decide) ?_
  refine lv_iadd X.1 X.2.1 dL_law_525 ?_
  refine va_sld X.1 X.2.1 hX hbl hbA (li_x L0) i2 dL_law_526 ?_
  refine lr_ri (As := [.int (xs (x3 + 1).toNatClampNeg), .int (xs (x3 + 2).toNatClampNeg)]) (rest := [_]) X L0 (fun hp M sc ar sm _ hM hz => c_X7_made l G hp M sc ar sm hM k cs sk hz.2.2.2.1 (xs (x3 + 1).toNatClampNeg) (xs (x3 + 2).toNatClampNeg)) mf_X7_made tw_1026 tw_1027 tw_1028 ⟨rfl, rfl, Nat.le_of_ble_eq_true rfl, Nat.le_of_ble_eq_true rfl⟩ hl.1 rfl rfl (Nat.le_of_ble_eq_true rfl) ⟨by omega, by omega⟩ dL_law_527 ?_
  refine lv_icmp_eq (tgt := 948) X.1 X.2.1 dL_law_530 (by decide) (fun _ => ?_) (fun q => absurd rfl q)
  exact W.widen (by omega) (by omega) (kk _ _ _ L0)
set_option maxHeartbeats 4000000 in
theorem law_op_state {p : Program} {e : Env} {s : State} {m : MethodId} {args : Array Value} {below : List Frame} {meth : Method} {c : Code} {H : Heap} {locs : List Loc} {cells slots : Nat} {Q : State → Prop} {ls : Array Slot} {G : HG} (l : Launch) {b b6 b7 L : Nat} {xs : Nat → Int32} {x3 : Int32} {z : ST} (O : LO p c s m G b b6 b7 L xs x3 z H locs ls) (hc : cells + 8 ≤ room_1.cells ∧ slots + 1040 ≤ room_1.slots) (kk : ∀ (z1 : ST) (H1 : Heap) (locs1 : List Loc), LI G s b6 b7 z1 z1 H1 locs1 → W p l e room_1 s m args below meth c H1 locs1 (cells + 8) (slots + 1040) Q (F0 m 948 ls [])) : W p l e room_1 s m args below meth c H locs cells slots Q (F0 m 535 ls []) := by
  obtain ⟨n, R, hd, k, cs, sk, pn, pt⟩ := z
  obtain ⟨X, hX, hbl, ⟨i1, i2, i3, i4⟩, L0, hl⟩ := O
  have hbA : ¬ A0 s b := Nat.not_le.mpr hbl
  refine lv_aload_n X.1 X.2.1 dL_law_535 rfl (lv_at hl 1 rfl) ?_
  refine lv_aload_n X.1 X.2.1 dL_law_536 rfl (lv_at hl 0 rfl) ?_
  refine lv_iload_n X.1 X.2.1 dL_law_537 rfl (lv_at hl 3 rfl) ?_
  refine lv_iconst (v := 1) X.1 X.2.1 dL_law_538 (by decide) ?_
  refine lv_iadd X.1 X.2.1 dL_law_539 ?_
  refine va_sld X.1 X.2.1 hX hbl hbA (li_x L0) i1 dL_law_540 ?_
  refine lc_ri (As := [.int (xs (x3 + 1).toNatClampNeg)]) (rest := []) X L0 (fun hp hz => c_X6_state l G hp b6 n R hd k cs sk pn pt hz (xs (x3 + 1).toNatClampNeg)) mf_X6_state tw_538 tw_539 tw_540 ⟨rfl, rfl, Nat.le_of_ble_eq_true rfl, Nat.le_of_ble_eq_true rfl⟩ hl.1 rfl rfl (Nat.le_of_ble_eq_true rfl) ⟨by omega, by omega⟩ dL_law_541 ?_
  refine lv_aload_n X.1 X.2.1 dL_law_544 rfl (lv_at hl 2 rfl) ?_
  refine lv_aload_n X.1 X.2.1 dL_law_545 rfl (lv_at hl 0 rfl) ?_
  refine lv_iload_n X.1 X.2.1 dL_law_546 rfl (lv_at hl 3 rfl) ?_
  refine lv_iconst (v := 1) X.1 X.2.1 dL_law_547 (by decide) ?_
  refine lv_iadd X.1 X.2.1 dL_law_548 ?_
  refine va_sld X.1 X.2.1 hX hbl hbA (li_x L0) i1 dL_law_549 ?_
  refine lr_ri (As := [.int (xs (x3 + 1).toNatClampNeg)]) (rest := [_]) X L0 (fun hp M sc ar sm _ hM hz => c_X7_state l G hp M sc ar sm hM n R hz.2.1 k cs sk hz.2.2.2.1 pn pt hz.2.2.2.2 (xs (x3 + 1).toNatClampNeg)) mf_X7_state tw_1030 tw_1031 tw_1032 ⟨rfl, rfl, Nat.le_of_ble_eq_true rfl, Nat.le_of_ble_eq_true rfl⟩ hl.1 rfl rfl (Nat.le_of_ble_eq_true rfl) ⟨by omega, by omega⟩ dL_law_550 ?_
  refine lv_icmp_eq (tgt := 948) X.1 X.2.1 dL_law_553 (by decide) (fun _ => ?_) (fun q => absurd rfl q)
  exact W.widen (by omega) (by omega) (kk _ _ _ L0)
set_option maxHeartbeats 4000000 in
theorem law_op_hands {p : Program} {e : Env} {s : State} {m : MethodId} {args : Array Value} {below : List Frame} {meth : Method} {c : Code} {H : Heap} {locs : List Loc} {cells slots : Nat} {Q : State → Prop} {ls : Array Slot} {G : HG} (l : Launch) {b b6 b7 L : Nat} {xs : Nat → Int32} {x3 : Int32} {z : ST} (O : LO p c s m G b b6 b7 L xs x3 z H locs ls) (hc : cells + 8 ≤ room_1.cells ∧ slots + 1040 ≤ room_1.slots) (kk : ∀ (z1 : ST) (H1 : Heap) (locs1 : List Loc), LI G s b6 b7 z1 z1 H1 locs1 → W p l e room_1 s m args below meth c H1 locs1 (cells + 8) (slots + 1040) Q (F0 m 948 ls [])) : W p l e room_1 s m args below meth c H locs cells slots Q (F0 m 558 ls []) := by
  obtain ⟨n, R, hd, k, cs, sk, pn, pt⟩ := z
  obtain ⟨X, hX, hbl, ⟨i1, i2, i3, i4⟩, L0, hl⟩ := O
  have hbA : ¬ A0 s b := Nat.not_le.mpr hbl
  refine lv_aload_n X.1 X.2.1 dL_law_558 rfl (lv_at hl 1 rfl) ?_
  refine lv_aload_n X.1 X.2.1 dL_law_559 rfl (lv_at hl 0 rfl) ?_
  refine lv_iload_n X.1 X.2.1 dL_law_560 rfl (lv_at hl 3 rfl) ?_
  refine lv_iconst (v := 1) X.1 X.2.1 dL_law_561 (by decide) ?_
  refine lv_iadd X.1 X.2.1 dL_law_562 ?_
  refine va_sld X.1 X.2.1 hX hbl hbA (li_x L0) i1 dL_law_563 ?_
  refine lv_aload_n X.1 X.2.1 dL_law_564 rfl (lv_at hl 0 rfl) ?_
  refine lv_iload_n X.1 X.2.1 dL_law_565 rfl (lv_at hl 3 rfl) ?_
  refine lv_iconst (v := 2) X.1 X.2.1 dL_law_566 (by decide) ?_
  refine lv_iadd X.1 X.2.1 dL_law_567 ?_
  refine va_sld X.1 X.2.1 hX hbl hbA (li_x L0) i2 dL_law_568 ?_
  refine lc_ri (As := [.int (xs (x3 + 1).toNatClampNeg), .int (xs (x3 + 2).toNatClampNeg)]) (rest := []) X L0 (fun hp hz => c_X6_hands l G hp b6 n R hd k cs sk pn pt hz (xs (x3 + 1).toNatClampNeg) (xs (x3 + 2).toNatClampNeg)) mf_X6_hands tw_554 tw_555 tw_556 ⟨rfl, rfl, Nat.le_of_ble_eq_true rfl, Nat.le_of_ble_eq_true rfl⟩ hl.1 rfl rfl (Nat.le_of_ble_eq_true rfl) ⟨by omega, by omega⟩ dL_law_569 ?_
  refine lv_aload_n X.1 X.2.1 dL_law_572 rfl (lv_at hl 2 rfl) ?_
  refine lv_aload_n X.1 X.2.1 dL_law_573 rfl (lv_at hl 0 rfl) ?_
  refine lv_iload_n X.1 X.2.1 dL_law_574 rfl (lv_at hl 3 rfl) ?_
  refine lv_iconst (v := 1) X.1 X.2.1 dL_law_575 (by decide) ?_
  refine lv_iadd X.1 X.2.1 dL_law_576 ?_
  refine va_sld X.1 X.2.1 hX hbl hbA (li_x L0) i1 dL_law_577 ?_
  refine lv_aload_n X.1 X.2.1 dL_law_578 rfl (lv_at hl 0 rfl) ?_
  refine lv_iload_n X.1 X.2.1 dL_law_579 rfl (lv_at hl 3 rfl) ?_
  refine lv_iconst (v := 2) X.1 X.2.1 dL_law_580 (by decide) ?_
  refine lv_iadd X.1 X.2.1 dL_law_581 ?_
  refine va_sld X.1 X.2.1 hX hbl hbA (li_x L0) i2 dL_law_582 ?_
  refine lr_ri (As := [.int (xs (x3 + 1).toNatClampNeg), .int (xs (x3 + 2).toNatClampNeg)]) (rest := [_]) X L0 (fun hp M sc ar sm _ hM hz => c_X7_hands l G hp M sc ar sm hM hz.1 n R hz.2.1 k cs sk hz.2.2.2.1 (xs (x3 + 1).toNatClampNeg) (xs (x3 + 2).toNatClampNeg)) mf_X7_hands tw_1034 tw_1035 tw_1036 ⟨rfl, rfl, Nat.le_of_ble_eq_true rfl, Nat.le_of_ble_eq_true rfl⟩ hl.1 rfl rfl (Nat.le_of_ble_eq_true rfl) ⟨by omega, by omega⟩ dL_law_583 ?_
  refine lv_icmp_eq (tgt := 948) X.1 X.2.1 dL_law_586 (by decide) (fun _ => ?_) (fun q => absurd rfl q)
  exact W.widen (by omega) (by omega) (kk _ _ _ L0)
set_option maxHeartbeats 4000000 in
theorem law_op_shown {p : Program} {e : Env} {s : State} {m : MethodId} {args : Array Value} {below : List Frame} {meth : Method} {c : Code} {H : Heap} {locs : List Loc} {cells slots : Nat} {Q : State → Prop} {ls : Array Slot} {G : HG} (l : Launch) {b b6 b7 L : Nat} {xs : Nat → Int32} {x3 : Int32} {z : ST} (O : LO p c s m G b b6 b7 L xs x3 z H locs ls) (hc : cells + 8 ≤ room_1.cells ∧ slots + 1040 ≤ room_1.slots) (kk : ∀ (z1 : ST) (H1 : Heap) (locs1 : List Loc), LI G s b6 b7 z1 z1 H1 locs1 → W p l e room_1 s m args below meth c H1 locs1 (cells + 8) (slots + 1040) Q (F0 m 948 ls [])) : W p l e room_1 s m args below meth c H locs cells slots Q (F0 m 591 ls []) := by
  obtain ⟨n, R, hd, k, cs, sk, pn, pt⟩ := z
  obtain ⟨X, hX, hbl, ⟨i1, i2, i3, i4⟩, L0, hl⟩ := O
  have hbA : ¬ A0 s b := Nat.not_le.mpr hbl
  refine lv_aload_n X.1 X.2.1 dL_law_591 rfl (lv_at hl 1 rfl) ?_
  refine lv_aload_n X.1 X.2.1 dL_law_592 rfl (lv_at hl 0 rfl) ?_
  refine lv_iload_n X.1 X.2.1 dL_law_593 rfl (lv_at hl 3 rfl) ?_
  refine lv_iconst (v := 1) X.1 X.2.1 dL_law_594 (by decide) ?_
  refine lv_iadd X.1 X.2.1 dL_law_595 ?_
  refine va_sld X.1 X.2.1 hX hbl hbA (li_x L0) i1 dL_law_596 ?_
  refine lv_aload_n X.1 X.2.1 dL_law_597 rfl (lv_at hl 0 rfl) ?_
  refine lv_iload_n X.1 X.2.1 dL_law_598 rfl (lv_at hl 3 rfl) ?_
  refine lv_iconst (v := 2) X.1 X.2.1 dL_law_599 (by decide) ?_
  refine lv_iadd X.1 X.2.1 dL_law_600 ?_
  refine va_sld X.1 X.2.1 hX hbl hbA (li_x L0) i2 dL_law_601 ?_
  refine lv_aload_n X.1 X.2.1 dL_law_602 rfl (lv_at hl 0 rfl) ?_
  refine lv_iload_n X.1 X.2.1 dL_law_603 rfl (lv_at hl 3 rfl) ?_
  refine lv_iconst (v := 3) X.1 X.2.1 dL_law_604 (by decide) ?_
  refine lv_iadd X.1 X.2.1 dL_law_605 ?_
  refine va_sld X.1 X.2.1 hX hbl hbA (li_x L0) i3 dL_law_606 ?_
  refine lc_ri (As := [.int (xs (x3 + 1).toNatClampNeg), .int (xs (x3 + 2).toNatClampNeg), .int (xs (x3 + 3).toNatClampNeg)]) (rest := []) X L0 (fun hp hz => c_X6_shown l G hp b6 n R hd k cs sk pn pt hz (xs (x3 + 1).toNatClampNeg) (xs (x3 + 2).toNatClampNeg) (xs (x3 + 3).toNatClampNeg)) mf_X6_shown tw_571 tw_572 tw_573 ⟨rfl, rfl, Nat.le_of_ble_eq_true rfl, Nat.le_of_ble_eq_true rfl⟩ hl.1 rfl rfl (Nat.le_of_ble_eq_true rfl) ⟨by omega, by omega⟩ dL_law_607 ?_
  refine lv_aload_n X.1 X.2.1 dL_law_610 rfl (lv_at hl 2 rfl) ?_
  refine lv_aload_n X.1 X.2.1 dL_law_611 rfl (lv_at hl 0 rfl) ?_
  refine lv_iload_n X.1 X.2.1 dL_law_612 rfl (lv_at hl 3 rfl) ?_
  refine lv_iconst (v := 1) X.1 X.2.1 dL_law_613 (by decide) ?_
  refine lv_iadd X.1 X.2.1 dL_law_614 ?_
  refine va_sld X.1 X.2.1 hX hbl hbA (li_x L0) i1 dL_law_615 ?_
  refine lv_aload_n X.1 X.2.1 dL_law_616 rfl (lv_at hl 0 rfl) ?_
  refine lv_iload_n X.1 X.2.1 dL_law_617 rfl (lv_at hl 3 rfl) ?_
  refine lv_iconst (v := 2) X.1 X.2.1 dL_law_618 (by decide) ?_
  refine lv_iadd X.1 X.2.1 dL_law_619 ?_
  refine va_sld X.1 X.2.1 hX hbl hbA (li_x L0) i2 dL_law_620 ?_
  refine lv_aload_n X.1 X.2.1 dL_law_621 rfl (lv_at hl 0 rfl) ?_
  refine lv_iload_n X.1 X.2.1 dL_law_622 rfl (lv_at hl 3 rfl) ?_
  refine lv_iconst (v := 3) X.1 X.2.1 dL_law_623 (by decide) ?_
  refine lv_iadd X.1 X.2.1 dL_law_624 ?_
  refine va_sld X.1 X.2.1 hX hbl hbA (li_x L0) i3 dL_law_625 ?_
  refine lr_ri (As := [.int (xs (x3 + 1).toNatClampNeg), .int (xs (x3 + 2).toNatClampNeg), .int (xs (x3 + 3).toNatClampNeg)]) (rest := [_]) X L0 (fun hp M sc ar sm _ hM hz => c_X7_shown l G hp M sc ar sm hM hz.1 n R hz.2.1 k cs sk hz.2.2.2.1 (xs (x3 + 1).toNatClampNeg) (xs (x3 + 2).toNatClampNeg) (xs (x3 + 3).toNatClampNeg)) mf_X7_shown tw_1042 tw_1043 tw_1044 ⟨rfl, rfl, Nat.le_of_ble_eq_true rfl, Nat.le_of_ble_eq_true rfl⟩ hl.1 rfl rfl (Nat.le_of_ble_eq_true rfl) ⟨by omega, by omega⟩ dL_law_626 ?_
  refine lv_icmp_eq (tgt := 948) X.1 X.2.1 dL_law_629 (by decide) (fun _ => ?_) (fun q => absurd rfl q)
  exact W.widen (by omega) (by omega) (kk _ _ _ L0)
set_option maxHeartbeats 4000000 in
theorem law_op_fits {p : Program} {e : Env} {s : State} {m : MethodId} {args : Array Value} {below : List Frame} {meth : Method} {c : Code} {H : Heap} {locs : List Loc} {cells slots : Nat} {Q : State → Prop} {ls : Array Slot} {G : HG} (l : Launch) {b b6 b7 L : Nat} {xs : Nat → Int32} {x3 : Int32} {z : ST} (O : LO p c s m G b b6 b7 L xs x3 z H locs ls) (hc : cells + 8 ≤ room_1.cells ∧ slots + 1040 ≤ room_1.slots) (kk : ∀ (z1 : ST) (H1 : Heap) (locs1 : List Loc), LI G s b6 b7 z1 z1 H1 locs1 → W p l e room_1 s m args below meth c H1 locs1 (cells + 8) (slots + 1040) Q (F0 m 948 ls [])) : W p l e room_1 s m args below meth c H locs cells slots Q (F0 m 634 ls []) := by
  obtain ⟨n, R, hd, k, cs, sk, pn, pt⟩ := z
  obtain ⟨X, hX, hbl, ⟨i1, i2, i3, i4⟩, L0, hl⟩ := O
  have hbA : ¬ A0 s b := Nat.not_le.mpr hbl
  refine lv_aload_n X.1 X.2.1 dL_law_634 rfl (lv_at hl 1 rfl) ?_
  refine lv_aload_n X.1 X.2.1 dL_law_635 rfl (lv_at hl 0 rfl) ?_
  refine lv_iload_n X.1 X.2.1 dL_law_636 rfl (lv_at hl 3 rfl) ?_
  refine lv_iconst (v := 1) X.1 X.2.1 dL_law_637 (by decide) ?_
  refine lv_iadd X.1 X.2.1 dL_law_638 ?_
  refine va_sld X.1 X.2.1 hX hbl hbA (li_x L0) i1 dL_law_639 ?_
  refine lv_aload_n X.1 X.2.1 dL_law_640 rfl (lv_at hl 0 rfl) ?_
  refine lv_iload_n X.1 X.2.1 dL_law_641 rfl (lv_at hl 3 rfl) ?_
  refine lv_iconst (v := 2) X.1 X.2.1 dL_law_642 (by decide) ?_
  refine lv_iadd X.1 X.2.1 dL_law_643 ?_
  refine va_sld X.1 X.2.1 hX hbl hbA (li_x L0) i2 dL_law_644 ?_
  refine lc_ri (As := [.int (xs (x3 + 1).toNatClampNeg), .int (xs (x3 + 2).toNatClampNeg)]) (rest := []) X L0 (fun hp hz => c_X6_fits l G hp b6 n R hd k cs sk pn pt hz (xs (x3 + 1).toNatClampNeg) (xs (x3 + 2).toNatClampNeg)) mf_X6_fits tw_584 tw_585 tw_586 ⟨rfl, rfl, Nat.le_of_ble_eq_true rfl, Nat.le_of_ble_eq_true rfl⟩ hl.1 rfl rfl (Nat.le_of_ble_eq_true rfl) ⟨by omega, by omega⟩ dL_law_645 ?_
  refine lv_aload_n X.1 X.2.1 dL_law_648 rfl (lv_at hl 2 rfl) ?_
  refine lv_aload_n X.1 X.2.1 dL_law_649 rfl (lv_at hl 0 rfl) ?_
  refine lv_iload_n X.1 X.2.1 dL_law_650 rfl (lv_at hl 3 rfl) ?_
  refine lv_iconst (v := 1) X.1 X.2.1 dL_law_651 (by decide) ?_
  refine lv_iadd X.1 X.2.1 dL_law_652 ?_
  refine va_sld X.1 X.2.1 hX hbl hbA (li_x L0) i1 dL_law_653 ?_
  refine lv_aload_n X.1 X.2.1 dL_law_654 rfl (lv_at hl 0 rfl) ?_
  refine lv_iload_n X.1 X.2.1 dL_law_655 rfl (lv_at hl 3 rfl) ?_
  refine lv_iconst (v := 2) X.1 X.2.1 dL_law_656 (by decide) ?_
  refine lv_iadd X.1 X.2.1 dL_law_657 ?_
  refine va_sld X.1 X.2.1 hX hbl hbA (li_x L0) i2 dL_law_658 ?_
  refine lr_ri (As := [.int (xs (x3 + 1).toNatClampNeg), .int (xs (x3 + 2).toNatClampNeg)]) (rest := [_]) X L0 (fun hp M sc ar sm _ hM hz => c_X7_fits l G hp M sc ar sm hM hz.1 n R hz.2.1 k cs sk hz.2.2.2.1 (xs (x3 + 1).toNatClampNeg) (xs (x3 + 2).toNatClampNeg)) mf_X7_fits tw_1053 tw_1054 tw_1055 ⟨rfl, rfl, Nat.le_of_ble_eq_true rfl, Nat.le_of_ble_eq_true rfl⟩ hl.1 rfl rfl (Nat.le_of_ble_eq_true rfl) ⟨by omega, by omega⟩ dL_law_659 ?_
  refine lv_icmp_eq (tgt := 948) X.1 X.2.1 dL_law_662 (by decide) (fun _ => ?_) (fun q => absurd rfl q)
  exact W.widen (by omega) (by omega) (kk _ _ _ L0)
set_option maxHeartbeats 4000000 in
theorem law_op_ruleOf {p : Program} {e : Env} {s : State} {m : MethodId} {args : Array Value} {below : List Frame} {meth : Method} {c : Code} {H : Heap} {locs : List Loc} {cells slots : Nat} {Q : State → Prop} {ls : Array Slot} {G : HG} (l : Launch) {b b6 b7 L : Nat} {xs : Nat → Int32} {x3 : Int32} {z : ST} (O : LO p c s m G b b6 b7 L xs x3 z H locs ls) (hc : cells + 8 ≤ room_1.cells ∧ slots + 1040 ≤ room_1.slots) (kk : ∀ (z1 : ST) (H1 : Heap) (locs1 : List Loc), LI G s b6 b7 z1 z1 H1 locs1 → W p l e room_1 s m args below meth c H1 locs1 (cells + 8) (slots + 1040) Q (F0 m 948 ls [])) : W p l e room_1 s m args below meth c H locs cells slots Q (F0 m 667 ls []) := by
  obtain ⟨n, R, hd, k, cs, sk, pn, pt⟩ := z
  obtain ⟨X, hX, hbl, ⟨i1, i2, i3, i4⟩, L0, hl⟩ := O
  have hbA : ¬ A0 s b := Nat.not_le.mpr hbl
  refine lv_aload_n X.1 X.2.1 dL_law_667 rfl (lv_at hl 1 rfl) ?_
  refine lv_aload_n X.1 X.2.1 dL_law_668 rfl (lv_at hl 0 rfl) ?_
  refine lv_iload_n X.1 X.2.1 dL_law_669 rfl (lv_at hl 3 rfl) ?_
  refine lv_iconst (v := 1) X.1 X.2.1 dL_law_670 (by decide) ?_
  refine lv_iadd X.1 X.2.1 dL_law_671 ?_
  refine va_sld X.1 X.2.1 hX hbl hbA (li_x L0) i1 dL_law_672 ?_
  refine lc_ri (As := [.int (xs (x3 + 1).toNatClampNeg)]) (rest := []) X L0 (fun hp hz => c_X6_ruleOf l G hp b6 n R hd k cs sk pn pt hz (xs (x3 + 1).toNatClampNeg)) mf_X6_ruleOf tw_588 tw_589 tw_590 ⟨rfl, rfl, Nat.le_of_ble_eq_true rfl, Nat.le_of_ble_eq_true rfl⟩ hl.1 rfl rfl (Nat.le_of_ble_eq_true rfl) ⟨by omega, by omega⟩ dL_law_673 ?_
  refine lv_aload_n X.1 X.2.1 dL_law_676 rfl (lv_at hl 2 rfl) ?_
  refine lv_aload_n X.1 X.2.1 dL_law_677 rfl (lv_at hl 0 rfl) ?_
  refine lv_iload_n X.1 X.2.1 dL_law_678 rfl (lv_at hl 3 rfl) ?_
  refine lv_iconst (v := 1) X.1 X.2.1 dL_law_679 (by decide) ?_
  refine lv_iadd X.1 X.2.1 dL_law_680 ?_
  refine va_sld X.1 X.2.1 hX hbl hbA (li_x L0) i1 dL_law_681 ?_
  refine lr_ri (As := [.int (xs (x3 + 1).toNatClampNeg)]) (rest := [_]) X L0 (fun hp M sc ar sm _ hM hz => c_X7_ruleOf l G hp M sc ar sm hM hz.1 n R hz.2.1 k cs sk hz.2.2.2.1 (xs (x3 + 1).toNatClampNeg)) mf_X7_ruleOf tw_1057 tw_1058 tw_1059 ⟨rfl, rfl, Nat.le_of_ble_eq_true rfl, Nat.le_of_ble_eq_true rfl⟩ hl.1 rfl rfl (Nat.le_of_ble_eq_true rfl) ⟨by omega, by omega⟩ dL_law_682 ?_
  refine lv_icmp_eq (tgt := 948) X.1 X.2.1 dL_law_685 (by decide) (fun _ => ?_) (fun q => absurd rfl q)
  exact W.widen (by omega) (by omega) (kk _ _ _ L0)
set_option maxHeartbeats 4000000 in
theorem law_op_reach {p : Program} {e : Env} {s : State} {m : MethodId} {args : Array Value} {below : List Frame} {meth : Method} {c : Code} {H : Heap} {locs : List Loc} {cells slots : Nat} {Q : State → Prop} {ls : Array Slot} {G : HG} (l : Launch) {b b6 b7 L : Nat} {xs : Nat → Int32} {x3 : Int32} {z : ST} (O : LO p c s m G b b6 b7 L xs x3 z H locs ls) (hc : cells + 8 ≤ room_1.cells ∧ slots + 1040 ≤ room_1.slots) (kk : ∀ (z1 : ST) (H1 : Heap) (locs1 : List Loc), LI G s b6 b7 z1 z1 H1 locs1 → W p l e room_1 s m args below meth c H1 locs1 (cells + 8) (slots + 1040) Q (F0 m 948 ls [])) : W p l e room_1 s m args below meth c H locs cells slots Q (F0 m 690 ls []) := by
  obtain ⟨n, R, hd, k, cs, sk, pn, pt⟩ := z
  obtain ⟨X, hX, hbl, ⟨i1, i2, i3, i4⟩, L0, hl⟩ := O
  have hbA : ¬ A0 s b := Nat.not_le.mpr hbl
  refine lv_aload_n X.1 X.2.1 dL_law_690 rfl (lv_at hl 1 rfl) ?_
  refine lv_aload_n X.1 X.2.1 dL_law_691 rfl (lv_at hl 0 rfl) ?_
  refine lv_iload_n X.1 X.2.1 dL_law_692 rfl (lv_at hl 3 rfl) ?_
  refine lv_iconst (v := 1) X.1 X.2.1 dL_law_693 (by decide) ?_
  refine lv_iadd X.1 X.2.1 dL_law_694 ?_
  refine va_sld X.1 X.2.1 hX hbl hbA (li_x L0) i1 dL_law_695 ?_
  refine lc_wi (As := [.int (xs (x3 + 1).toNatClampNeg)]) (rest := []) X L0 (fun r hp1 q => q) (fun A hp hA hO hz => c_X6_reach l G A hp H.size hA hO b6 n R hd k cs sk pn pt hz (xs (x3 + 1).toNatClampNeg)) mf_X6_reach tw_592 tw_593 tw_594 ⟨rfl, rfl, Nat.le_of_ble_eq_true rfl, Nat.le_of_ble_eq_true rfl⟩ hl.1 rfl rfl (Nat.le_of_ble_eq_true rfl) ⟨by omega, by omega⟩ dL_law_696 (fun H locs L1 => ?_)
  refine lv_aload_n X.1 X.2.1 dL_law_699 rfl (lv_at hl 2 rfl) ?_
  refine lv_aload_n X.1 X.2.1 dL_law_700 rfl (lv_at hl 0 rfl) ?_
  refine lv_iload_n X.1 X.2.1 dL_law_701 rfl (lv_at hl 3 rfl) ?_
  refine lv_iconst (v := 1) X.1 X.2.1 dL_law_702 (by decide) ?_
  refine lv_iadd X.1 X.2.1 dL_law_703 ?_
  refine va_sld X.1 X.2.1 hX hbl hbA (li_x L1) i1 dL_law_704 ?_
  refine lr_ri (As := [.int (xs (x3 + 1).toNatClampNeg)]) (rest := [_]) X L1 (fun hp M sc ar sm _ hM hz => c_X7_reach l G hp M sc ar sm hM hz.1 n R hz.2.1 (xs (x3 + 1).toNatClampNeg)) mf_X7_reach tw_1061 tw_1062 tw_1063 ⟨rfl, rfl, Nat.le_of_ble_eq_true rfl, Nat.le_of_ble_eq_true rfl⟩ hl.1 rfl rfl (Nat.le_of_ble_eq_true rfl) ⟨by omega, by omega⟩ dL_law_705 ?_
  refine lv_icmp_eq (tgt := 948) X.1 X.2.1 dL_law_708 (by decide) (fun _ => ?_) (fun q => absurd rfl q)
  exact W.widen (by omega) (by omega) (kk _ _ _ L1)
set_option maxHeartbeats 4000000 in
theorem law_op_holes {p : Program} {e : Env} {s : State} {m : MethodId} {args : Array Value} {below : List Frame} {meth : Method} {c : Code} {H : Heap} {locs : List Loc} {cells slots : Nat} {Q : State → Prop} {ls : Array Slot} {G : HG} (l : Launch) {b b6 b7 L : Nat} {xs : Nat → Int32} {x3 : Int32} {z : ST} (O : LO p c s m G b b6 b7 L xs x3 z H locs ls) (hc : cells + 8 ≤ room_1.cells ∧ slots + 1040 ≤ room_1.slots) (kk : ∀ (z1 : ST) (H1 : Heap) (locs1 : List Loc), LI G s b6 b7 z1 z1 H1 locs1 → W p l e room_1 s m args below meth c H1 locs1 (cells + 8) (slots + 1040) Q (F0 m 948 ls [])) : W p l e room_1 s m args below meth c H locs cells slots Q (F0 m 713 ls []) := by
  obtain ⟨n, R, hd, k, cs, sk, pn, pt⟩ := z
  obtain ⟨X, hX, hbl, ⟨i1, i2, i3, i4⟩, L0, hl⟩ := O
  have hbA : ¬ A0 s b := Nat.not_le.mpr hbl
  refine lv_aload_n X.1 X.2.1 dL_law_713 rfl (lv_at hl 1 rfl) ?_
  refine lv_aload_n X.1 X.2.1 dL_law_714 rfl (lv_at hl 0 rfl) ?_
  refine lv_iload_n X.1 X.2.1 dL_law_715 rfl (lv_at hl 3 rfl) ?_
  refine lv_iconst (v := 1) X.1 X.2.1 dL_law_716 (by decide) ?_
  refine lv_iadd X.1 X.2.1 dL_law_717 ?_
  refine va_sld X.1 X.2.1 hX hbl hbA (li_x L0) i1 dL_law_718 ?_
  refine lv_aload_n X.1 X.2.1 dL_law_719 rfl (lv_at hl 0 rfl) ?_
  refine lv_iload_n X.1 X.2.1 dL_law_720 rfl (lv_at hl 3 rfl) ?_
  refine lv_iconst (v := 2) X.1 X.2.1 dL_law_721 (by decide) ?_
  refine lv_iadd X.1 X.2.1 dL_law_722 ?_
  refine va_sld X.1 X.2.1 hX hbl hbA (li_x L0) i2 dL_law_723 ?_
  refine lv_aload_n X.1 X.2.1 dL_law_724 rfl (lv_at hl 0 rfl) ?_
  refine lv_iload_n X.1 X.2.1 dL_law_725 rfl (lv_at hl 3 rfl) ?_
  refine lv_iconst (v := 3) X.1 X.2.1 dL_law_726 (by decide) ?_
  refine lv_iadd X.1 X.2.1 dL_law_727 ?_
  refine va_sld X.1 X.2.1 hX hbl hbA (li_x L0) i3 dL_law_728 ?_
  refine lc_wi (As := [.int (xs (x3 + 1).toNatClampNeg), .int (xs (x3 + 2).toNatClampNeg), .int (xs (x3 + 3).toNatClampNeg)]) (rest := []) X L0 (fun r hp1 q => q) (fun A hp hA hO hz => c_X6_holes l G A hp H.size hA hO b6 n R hd k cs sk pn pt hz (xs (x3 + 1).toNatClampNeg) (xs (x3 + 2).toNatClampNeg) (xs (x3 + 3).toNatClampNeg)) mf_X6_holes tw_602 tw_603 tw_604 ⟨rfl, rfl, Nat.le_of_ble_eq_true rfl, Nat.le_of_ble_eq_true rfl⟩ hl.1 rfl rfl (Nat.le_of_ble_eq_true rfl) ⟨by omega, by omega⟩ dL_law_729 (fun H locs L1 => ?_)
  refine lv_aload_n X.1 X.2.1 dL_law_732 rfl (lv_at hl 2 rfl) ?_
  refine lv_aload_n X.1 X.2.1 dL_law_733 rfl (lv_at hl 0 rfl) ?_
  refine lv_iload_n X.1 X.2.1 dL_law_734 rfl (lv_at hl 3 rfl) ?_
  refine lv_iconst (v := 1) X.1 X.2.1 dL_law_735 (by decide) ?_
  refine lv_iadd X.1 X.2.1 dL_law_736 ?_
  refine va_sld X.1 X.2.1 hX hbl hbA (li_x L1) i1 dL_law_737 ?_
  refine lv_aload_n X.1 X.2.1 dL_law_738 rfl (lv_at hl 0 rfl) ?_
  refine lv_iload_n X.1 X.2.1 dL_law_739 rfl (lv_at hl 3 rfl) ?_
  refine lv_iconst (v := 2) X.1 X.2.1 dL_law_740 (by decide) ?_
  refine lv_iadd X.1 X.2.1 dL_law_741 ?_
  refine va_sld X.1 X.2.1 hX hbl hbA (li_x L1) i2 dL_law_742 ?_
  refine lv_aload_n X.1 X.2.1 dL_law_743 rfl (lv_at hl 0 rfl) ?_
  refine lv_iload_n X.1 X.2.1 dL_law_744 rfl (lv_at hl 3 rfl) ?_
  refine lv_iconst (v := 3) X.1 X.2.1 dL_law_745 (by decide) ?_
  refine lv_iadd X.1 X.2.1 dL_law_746 ?_
  refine va_sld X.1 X.2.1 hX hbl hbA (li_x L1) i3 dL_law_747 ?_
  refine lr_ri (As := [.int (xs (x3 + 1).toNatClampNeg), .int (xs (x3 + 2).toNatClampNeg), .int (xs (x3 + 3).toNatClampNeg)]) (rest := [_]) X L1 (fun hp M sc ar sm _ hM hz => c_X7_holes l G hp M sc ar sm hM hz.1 n R hz.2.1 (xs (x3 + 1).toNatClampNeg) (xs (x3 + 2).toNatClampNeg) (xs (x3 + 3).toNatClampNeg)) mf_X7_holes tw_1069 tw_1070 tw_1071 ⟨rfl, rfl, Nat.le_of_ble_eq_true rfl, Nat.le_of_ble_eq_true rfl⟩ hl.1 rfl rfl (Nat.le_of_ble_eq_true rfl) ⟨by omega, by omega⟩ dL_law_748 ?_
  refine lv_icmp_eq (tgt := 948) X.1 X.2.1 dL_law_751 (by decide) (fun _ => ?_) (fun q => absurd rfl q)
  exact W.widen (by omega) (by omega) (kk _ _ _ L1)
set_option maxHeartbeats 4000000 in
theorem law_op_tricks {p : Program} {e : Env} {s : State} {m : MethodId} {args : Array Value} {below : List Frame} {meth : Method} {c : Code} {H : Heap} {locs : List Loc} {cells slots : Nat} {Q : State → Prop} {ls : Array Slot} {G : HG} (l : Launch) {b b6 b7 L : Nat} {xs : Nat → Int32} {x3 : Int32} {z : ST} (O : LO p c s m G b b6 b7 L xs x3 z H locs ls) (hc : cells + 8 ≤ room_1.cells ∧ slots + 1040 ≤ room_1.slots) (kk : ∀ (z1 : ST) (H1 : Heap) (locs1 : List Loc), LI G s b6 b7 z1 z1 H1 locs1 → W p l e room_1 s m args below meth c H1 locs1 (cells + 8) (slots + 1040) Q (F0 m 948 ls [])) : W p l e room_1 s m args below meth c H locs cells slots Q (F0 m 756 ls []) := by
  obtain ⟨n, R, hd, k, cs, sk, pn, pt⟩ := z
  obtain ⟨X, hX, hbl, ⟨i1, i2, i3, i4⟩, L0, hl⟩ := O
  have hbA : ¬ A0 s b := Nat.not_le.mpr hbl
  refine lv_aload_n X.1 X.2.1 dL_law_756 rfl (lv_at hl 1 rfl) ?_
  refine lv_aload_n X.1 X.2.1 dL_law_757 rfl (lv_at hl 0 rfl) ?_
  refine lv_iload_n X.1 X.2.1 dL_law_758 rfl (lv_at hl 3 rfl) ?_
  refine lv_iconst (v := 1) X.1 X.2.1 dL_law_759 (by decide) ?_
  refine lv_iadd X.1 X.2.1 dL_law_760 ?_
  refine va_sld X.1 X.2.1 hX hbl hbA (li_x L0) i1 dL_law_761 ?_
  refine lv_aload_n X.1 X.2.1 dL_law_762 rfl (lv_at hl 0 rfl) ?_
  refine lv_iload_n X.1 X.2.1 dL_law_763 rfl (lv_at hl 3 rfl) ?_
  refine lv_iconst (v := 2) X.1 X.2.1 dL_law_764 (by decide) ?_
  refine lv_iadd X.1 X.2.1 dL_law_765 ?_
  refine va_sld X.1 X.2.1 hX hbl hbA (li_x L0) i2 dL_law_766 ?_
  refine lv_aload_n X.1 X.2.1 dL_law_767 rfl (lv_at hl 0 rfl) ?_
  refine lv_iload_n X.1 X.2.1 dL_law_768 rfl (lv_at hl 3 rfl) ?_
  refine lv_iconst (v := 3) X.1 X.2.1 dL_law_769 (by decide) ?_
  refine lv_iadd X.1 X.2.1 dL_law_770 ?_
  refine va_sld X.1 X.2.1 hX hbl hbA (li_x L0) i3 dL_law_771 ?_
  refine lc_ri (As := [.int (xs (x3 + 1).toNatClampNeg), .int (xs (x3 + 2).toNatClampNeg), .int (xs (x3 + 3).toNatClampNeg)]) (rest := []) X L0 (fun hp hz => c_X6_tricks l G hp b6 n R hd k cs sk pn pt hz (xs (x3 + 1).toNatClampNeg) (xs (x3 + 2).toNatClampNeg) (xs (x3 + 3).toNatClampNeg)) mf_X6_tricks tw_606 tw_607 tw_608 ⟨rfl, rfl, Nat.le_of_ble_eq_true rfl, Nat.le_of_ble_eq_true rfl⟩ hl.1 rfl rfl (Nat.le_of_ble_eq_true rfl) ⟨by omega, by omega⟩ dL_law_772 ?_
  refine lv_aload_n X.1 X.2.1 dL_law_775 rfl (lv_at hl 2 rfl) ?_
  refine lv_aload_n X.1 X.2.1 dL_law_776 rfl (lv_at hl 0 rfl) ?_
  refine lv_iload_n X.1 X.2.1 dL_law_777 rfl (lv_at hl 3 rfl) ?_
  refine lv_iconst (v := 1) X.1 X.2.1 dL_law_778 (by decide) ?_
  refine lv_iadd X.1 X.2.1 dL_law_779 ?_
  refine va_sld X.1 X.2.1 hX hbl hbA (li_x L0) i1 dL_law_780 ?_
  refine lv_aload_n X.1 X.2.1 dL_law_781 rfl (lv_at hl 0 rfl) ?_
  refine lv_iload_n X.1 X.2.1 dL_law_782 rfl (lv_at hl 3 rfl) ?_
  refine lv_iconst (v := 2) X.1 X.2.1 dL_law_783 (by decide) ?_
  refine lv_iadd X.1 X.2.1 dL_law_784 ?_
  refine va_sld X.1 X.2.1 hX hbl hbA (li_x L0) i2 dL_law_785 ?_
  refine lv_aload_n X.1 X.2.1 dL_law_786 rfl (lv_at hl 0 rfl) ?_
  refine lv_iload_n X.1 X.2.1 dL_law_787 rfl (lv_at hl 3 rfl) ?_
  refine lv_iconst (v := 3) X.1 X.2.1 dL_law_788 (by decide) ?_
  refine lv_iadd X.1 X.2.1 dL_law_789 ?_
  refine va_sld X.1 X.2.1 hX hbl hbA (li_x L0) i3 dL_law_790 ?_
  refine lr_ri (As := [.int (xs (x3 + 1).toNatClampNeg), .int (xs (x3 + 2).toNatClampNeg), .int (xs (x3 + 3).toNatClampNeg)]) (rest := [_]) X L0 (fun hp M sc ar sm _ hM hz => c_X7_tricks l G hp M sc ar sm hM hz.1 (xs (x3 + 1).toNatClampNeg) (xs (x3 + 2).toNatClampNeg) (xs (x3 + 3).toNatClampNeg)) mf_X7_tricks tw_1073 tw_1074 tw_1075 ⟨rfl, rfl, Nat.le_of_ble_eq_true rfl, Nat.le_of_ble_eq_true rfl⟩ hl.1 rfl rfl (Nat.le_of_ble_eq_true rfl) ⟨by omega, by omega⟩ dL_law_791 ?_
  refine lv_icmp_eq (tgt := 948) X.1 X.2.1 dL_law_794 (by decide) (fun _ => ?_) (fun q => absurd rfl q)
  exact W.widen (by omega) (by omega) (kk _ _ _ L0)
set_option maxHeartbeats 4000000 in
theorem law_op_expected {p : Program} {e : Env} {s : State} {m : MethodId} {args : Array Value} {below : List Frame} {meth : Method} {c : Code} {H : Heap} {locs : List Loc} {cells slots : Nat} {Q : State → Prop} {ls : Array Slot} {G : HG} (l : Launch) {b b6 b7 L : Nat} {xs : Nat → Int32} {x3 : Int32} {z : ST} (O : LO p c s m G b b6 b7 L xs x3 z H locs ls) (hc : cells + 8 ≤ room_1.cells ∧ slots + 1040 ≤ room_1.slots) (kk : ∀ (z1 : ST) (H1 : Heap) (locs1 : List Loc), LI G s b6 b7 z1 z1 H1 locs1 → W p l e room_1 s m args below meth c H1 locs1 (cells + 8) (slots + 1040) Q (F0 m 948 ls [])) : W p l e room_1 s m args below meth c H locs cells slots Q (F0 m 799 ls []) := by
  obtain ⟨n, R, hd, k, cs, sk, pn, pt⟩ := z
  obtain ⟨X, hX, hbl, ⟨i1, i2, i3, i4⟩, L0, hl⟩ := O
  have hbA : ¬ A0 s b := Nat.not_le.mpr hbl
  refine lv_aload_n X.1 X.2.1 dL_law_799 rfl (lv_at hl 1 rfl) ?_
  refine lv_aload_n X.1 X.2.1 dL_law_800 rfl (lv_at hl 0 rfl) ?_
  refine lv_iload_n X.1 X.2.1 dL_law_801 rfl (lv_at hl 3 rfl) ?_
  refine lv_iconst (v := 1) X.1 X.2.1 dL_law_802 (by decide) ?_
  refine lv_iadd X.1 X.2.1 dL_law_803 ?_
  refine va_sld X.1 X.2.1 hX hbl hbA (li_x L0) i1 dL_law_804 ?_
  refine lv_aload_n X.1 X.2.1 dL_law_805 rfl (lv_at hl 0 rfl) ?_
  refine lv_iload_n X.1 X.2.1 dL_law_806 rfl (lv_at hl 3 rfl) ?_
  refine lv_iconst (v := 2) X.1 X.2.1 dL_law_807 (by decide) ?_
  refine lv_iadd X.1 X.2.1 dL_law_808 ?_
  refine va_sld X.1 X.2.1 hX hbl hbA (li_x L0) i2 dL_law_809 ?_
  refine lc_rl (As := [.int (xs (x3 + 1).toNatClampNeg), .int (xs (x3 + 2).toNatClampNeg)]) (rest := []) X L0 (fun hp hz => c_X6_expected l G hp b6 n R hd k cs sk pn pt hz (xs (x3 + 1).toNatClampNeg) (xs (x3 + 2).toNatClampNeg)) mf_X6_expected tw_622 tw_623 tw_624 ⟨rfl, rfl, Nat.le_of_ble_eq_true rfl, Nat.le_of_ble_eq_true rfl⟩ hl.1 rfl rfl (Nat.le_of_ble_eq_true rfl) ⟨by omega, by omega⟩ dL_law_810 ?_
  refine lv_aload_n X.1 X.2.1 dL_law_813 rfl (lv_at hl 2 rfl) ?_
  refine lv_aload_n X.1 X.2.1 dL_law_814 rfl (lv_at hl 0 rfl) ?_
  refine lv_iload_n X.1 X.2.1 dL_law_815 rfl (lv_at hl 3 rfl) ?_
  refine lv_iconst (v := 1) X.1 X.2.1 dL_law_816 (by decide) ?_
  refine lv_iadd X.1 X.2.1 dL_law_817 ?_
  refine va_sld X.1 X.2.1 hX hbl hbA (li_x L0) i1 dL_law_818 ?_
  refine lv_aload_n X.1 X.2.1 dL_law_819 rfl (lv_at hl 0 rfl) ?_
  refine lv_iload_n X.1 X.2.1 dL_law_820 rfl (lv_at hl 3 rfl) ?_
  refine lv_iconst (v := 2) X.1 X.2.1 dL_law_821 (by decide) ?_
  refine lv_iadd X.1 X.2.1 dL_law_822 ?_
  refine va_sld X.1 X.2.1 hX hbl hbA (li_x L0) i2 dL_law_823 ?_
  refine lr_wl (As := [.int (xs (x3 + 1).toNatClampNeg), .int (xs (x3 + 2).toNatClampNeg)]) (rest := [_]) X L0 (fun M r hp1 q => q) (fun A hp M sc ar sm hA hO _ hM hz => c_X7_expected l G A hp _ hA hO M sc ar sm hM n R hd k cs sk pn pt hz (xs (x3 + 1).toNatClampNeg) (xs (x3 + 2).toNatClampNeg)) mf_X7_expected tw_1089 tw_1090 tw_1091 ⟨rfl, rfl, Nat.le_of_ble_eq_true rfl, Nat.le_of_ble_eq_true rfl⟩ hl.1 rfl rfl (Nat.le_of_ble_eq_true rfl) ⟨by omega, by omega⟩ dL_law_824 (fun H locs L2 => ?_)
  refine r_lcmp X.1 X.2.1 dL_law_827 ?_
  refine lv_if_eq (tgt := 948) X.1 X.2.1 dL_law_828 (by decide) (fun _ => ?_) (fun q => absurd (lcI_self _) q)
  exact W.widen (by omega) (by omega) (kk _ _ _ L2)
set_option maxHeartbeats 4000000 in
theorem law_op_contract {p : Program} {e : Env} {s : State} {m : MethodId} {args : Array Value} {below : List Frame} {meth : Method} {c : Code} {H : Heap} {locs : List Loc} {cells slots : Nat} {Q : State → Prop} {ls : Array Slot} {G : HG} (l : Launch) {b b6 b7 L : Nat} {xs : Nat → Int32} {x3 : Int32} {z : ST} (O : LO p c s m G b b6 b7 L xs x3 z H locs ls) (hc : cells + 8 ≤ room_1.cells ∧ slots + 1040 ≤ room_1.slots) (kk : ∀ (z1 : ST) (H1 : Heap) (locs1 : List Loc), LI G s b6 b7 z1 z1 H1 locs1 → W p l e room_1 s m args below meth c H1 locs1 (cells + 8) (slots + 1040) Q (F0 m 948 ls [])) : W p l e room_1 s m args below meth c H locs cells slots Q (F0 m 833 ls []) := by
  obtain ⟨n, R, hd, k, cs, sk, pn, pt⟩ := z
  obtain ⟨X, hX, hbl, ⟨i1, i2, i3, i4⟩, L0, hl⟩ := O
  have hbA : ¬ A0 s b := Nat.not_le.mpr hbl
  refine lv_aload_n X.1 X.2.1 dL_law_833 rfl (lv_at hl 1 rfl) ?_
  refine lv_aload_n X.1 X.2.1 dL_law_834 rfl (lv_at hl 0 rfl) ?_
  refine lv_iload_n X.1 X.2.1 dL_law_835 rfl (lv_at hl 3 rfl) ?_
  refine lv_iconst (v := 1) X.1 X.2.1 dL_law_836 (by decide) ?_
  refine lv_iadd X.1 X.2.1 dL_law_837 ?_
  refine va_sld X.1 X.2.1 hX hbl hbA (li_x L0) i1 dL_law_838 ?_
  refine lc_ri (As := [.int (xs (x3 + 1).toNatClampNeg)]) (rest := []) X L0 (fun hp hz => c_X6_contract l G hp b6 n R hd k cs sk pn pt hz (xs (x3 + 1).toNatClampNeg)) mf_X6_contract tw_632 tw_633 tw_634 ⟨rfl, rfl, Nat.le_of_ble_eq_true rfl, Nat.le_of_ble_eq_true rfl⟩ hl.1 rfl rfl (Nat.le_of_ble_eq_true rfl) ⟨by omega, by omega⟩ dL_law_839 ?_
  refine lv_aload_n X.1 X.2.1 dL_law_842 rfl (lv_at hl 2 rfl) ?_
  refine lv_aload_n X.1 X.2.1 dL_law_843 rfl (lv_at hl 0 rfl) ?_
  refine lv_iload_n X.1 X.2.1 dL_law_844 rfl (lv_at hl 3 rfl) ?_
  refine lv_iconst (v := 1) X.1 X.2.1 dL_law_845 (by decide) ?_
  refine lv_iadd X.1 X.2.1 dL_law_846 ?_
  refine va_sld X.1 X.2.1 hX hbl hbA (li_x L0) i1 dL_law_847 ?_
  refine lr_wi (As := [.int (xs (x3 + 1).toNatClampNeg)]) (rest := [_]) X L0 (fun M r hp1 q => q) (fun A hp M sc ar sm hA hO _ hM hz => c_X7_contract l G A hp _ hA hO M sc ar sm hM n R hd k cs sk pn pt hz (xs (x3 + 1).toNatClampNeg)) mf_X7_contract tw_1099 tw_1100 tw_1101 ⟨rfl, rfl, Nat.le_of_ble_eq_true rfl, Nat.le_of_ble_eq_true rfl⟩ hl.1 rfl rfl (Nat.le_of_ble_eq_true rfl) ⟨by omega, by omega⟩ dL_law_848 (fun H locs L2 => ?_)
  refine lv_icmp_eq (tgt := 948) X.1 X.2.1 dL_law_851 (by decide) (fun _ => ?_) (fun q => absurd rfl q)
  exact W.widen (by omega) (by omega) (kk _ _ _ L2)
set_option maxHeartbeats 4000000 in
theorem law_op_put {p : Program} {e : Env} {s : State} {m : MethodId} {args : Array Value} {below : List Frame} {meth : Method} {c : Code} {H : Heap} {locs : List Loc} {cells slots : Nat} {Q : State → Prop} {ls : Array Slot} {G : HG} (l : Launch) {b b6 b7 L : Nat} {xs : Nat → Int32} {x3 : Int32} {z : ST} (O : LO p c s m G b b6 b7 L xs x3 z H locs ls) (hc : cells + 8 ≤ room_1.cells ∧ slots + 1040 ≤ room_1.slots) (kk : ∀ (z1 : ST) (H1 : Heap) (locs1 : List Loc), LI G s b6 b7 z1 z1 H1 locs1 → W p l e room_1 s m args below meth c H1 locs1 (cells + 8) (slots + 1040) Q (F0 m 948 ls [])) : W p l e room_1 s m args below meth c H locs cells slots Q (F0 m 856 ls []) := by
  obtain ⟨n, R, hd, k, cs, sk, pn, pt⟩ := z
  obtain ⟨X, hX, hbl, ⟨i1, i2, i3, i4⟩, L0, hl⟩ := O
  have hbA : ¬ A0 s b := Nat.not_le.mpr hbl
  obtain ⟨C, hC, hE⟩ := long_of ((xs (x3 + 1).toNatClampNeg).toInt64 <<< ((32 : Int32).toInt64 &&& 63) ||| (xs (x3 + 2).toNatClampNeg).toInt64 &&& 4294967295)
  refine lv_aload_n X.1 X.2.1 dL_law_856 rfl (lv_at hl 1 rfl) ?_
  refine lv_aload_n X.1 X.2.1 dL_law_857 rfl (lv_at hl 0 rfl) ?_
  refine lv_iload_n X.1 X.2.1 dL_law_858 rfl (lv_at hl 3 rfl) ?_
  refine lv_iconst (v := 1) X.1 X.2.1 dL_law_859 (by decide) ?_
  refine lv_iadd X.1 X.2.1 dL_law_860 ?_
  refine va_sld X.1 X.2.1 hX hbl hbA (li_x L0) i1 dL_law_861 ?_
  refine lv_i2l X.1 X.2.1 dL_law_862 rfl ?_
  refine lv_bipush (v := 32) X.1 X.2.1 dL_law_863 (by decide) ?_
  refine lv_lshl X.1 X.2.1 dL_law_865 rfl ?_
  refine lv_aload_n X.1 X.2.1 dL_law_866 rfl (lv_at hl 0 rfl) ?_
  refine lv_iload_n X.1 X.2.1 dL_law_867 rfl (lv_at hl 3 rfl) ?_
  refine lv_iconst (v := 2) X.1 X.2.1 dL_law_868 (by decide) ?_
  refine lv_iadd X.1 X.2.1 dL_law_869 ?_
  refine va_sld X.1 X.2.1 hX hbl hbA (li_x L0) i2 dL_law_870 ?_
  refine lv_i2l X.1 X.2.1 dL_law_871 rfl ?_
  refine r_const2 X tw_1144 dL_law_872 ?_
  refine lv_land X.1 X.2.1 dL_law_875 ?_
  refine lv_lor X.1 X.2.1 dL_law_876 ?_
  rw [hE]
  refine lc_wi (As := [.long (lN C)]) (rest := []) X L0 (fun r hp1 q => q) (fun A hp hA hO hz => c_X6_put l G A hp H.size hA hO b6 n R hd k cs sk pn pt hz C hC) mf_X6_put tw_636 tw_637 tw_638 ⟨rfl, rfl, Nat.le_of_ble_eq_true rfl, Nat.le_of_ble_eq_true rfl⟩ hl.1 rfl rfl (Nat.le_of_ble_eq_true rfl) ⟨by omega, by omega⟩ dL_law_877 (fun H locs L1 => ?_)
  refine lv_aload_n X.1 X.2.1 dL_law_880 rfl (lv_at hl 2 rfl) ?_
  refine lv_aload_n X.1 X.2.1 dL_law_881 rfl (lv_at hl 0 rfl) ?_
  refine lv_iload_n X.1 X.2.1 dL_law_882 rfl (lv_at hl 3 rfl) ?_
  refine lv_iconst (v := 1) X.1 X.2.1 dL_law_883 (by decide) ?_
  refine lv_iadd X.1 X.2.1 dL_law_884 ?_
  refine va_sld X.1 X.2.1 hX hbl hbA (li_x L1) i1 dL_law_885 ?_
  refine lv_i2l X.1 X.2.1 dL_law_886 rfl ?_
  refine lv_bipush (v := 32) X.1 X.2.1 dL_law_887 (by decide) ?_
  refine lv_lshl X.1 X.2.1 dL_law_889 rfl ?_
  refine lv_aload_n X.1 X.2.1 dL_law_890 rfl (lv_at hl 0 rfl) ?_
  refine lv_iload_n X.1 X.2.1 dL_law_891 rfl (lv_at hl 3 rfl) ?_
  refine lv_iconst (v := 2) X.1 X.2.1 dL_law_892 (by decide) ?_
  refine lv_iadd X.1 X.2.1 dL_law_893 ?_
  refine va_sld X.1 X.2.1 hX hbl hbA (li_x L1) i2 dL_law_894 ?_
  refine lv_i2l X.1 X.2.1 dL_law_895 rfl ?_
  refine r_const2 X tw_1144 dL_law_896 ?_
  refine lv_land X.1 X.2.1 dL_law_899 ?_
  refine lv_lor X.1 X.2.1 dL_law_900 ?_
  rw [hE]
  refine lr_wi (As := [.long (lN C)]) (rest := [_]) X L1 (fun M r hp1 q => q) (fun A hp M sc ar sm hA hO _ hM hz => c_X7_put l G A hp _ hA hO M sc ar sm hM n R hd k cs sk pn pt hz C hC) mf_X7_put tw_1103 tw_1104 tw_1105 ⟨rfl, rfl, Nat.le_of_ble_eq_true rfl, Nat.le_of_ble_eq_true rfl⟩ hl.1 rfl rfl (Nat.le_of_ble_eq_true rfl) ⟨by omega, by omega⟩ dL_law_901 (fun H locs L2 => ?_)
  refine lv_icmp_eq (tgt := 948) X.1 X.2.1 dL_law_904 (by decide) (fun _ => ?_) (fun q => absurd rfl q)
  exact W.widen (by omega) (by omega) (kk _ _ _ L2)
set_option maxHeartbeats 4000000 in
theorem law_op_wipe {p : Program} {e : Env} {s : State} {m : MethodId} {args : Array Value} {below : List Frame} {meth : Method} {c : Code} {H : Heap} {locs : List Loc} {cells slots : Nat} {Q : State → Prop} {ls : Array Slot} {G : HG} (l : Launch) {b b6 b7 L : Nat} {xs : Nat → Int32} {x3 : Int32} {z : ST} (O : LO p c s m G b b6 b7 L xs x3 z H locs ls) (hc : cells + 8 ≤ room_1.cells ∧ slots + 1040 ≤ room_1.slots) (kk : ∀ (z1 : ST) (H1 : Heap) (locs1 : List Loc), LI G s b6 b7 z1 z1 H1 locs1 → W p l e room_1 s m args below meth c H1 locs1 (cells + 8) (slots + 1040) Q (F0 m 948 ls [])) : W p l e room_1 s m args below meth c H locs cells slots Q (F0 m 909 ls []) := by
  obtain ⟨n, R, hd, k, cs, sk, pn, pt⟩ := z
  obtain ⟨X, hX, hbl, ⟨i1, i2, i3, i4⟩, L0, hl⟩ := O
  have hbA : ¬ A0 s b := Nat.not_le.mpr hbl
  refine lv_aload_n X.1 X.2.1 dL_law_909 rfl (lv_at hl 1 rfl) ?_
  refine lc_wi (As := []) (rest := []) X L0 (fun r hp1 q => q) (fun A hp hA hO hz => c_X6_wipe l G A hp H.size hA hO b6 n R hd k cs sk pn pt hz ) mf_X6_wipe tw_722 tw_723 tw_724 ⟨rfl, rfl, Nat.le_of_ble_eq_true rfl, Nat.le_of_ble_eq_true rfl⟩ hl.1 rfl rfl (Nat.le_of_ble_eq_true rfl) ⟨by omega, by omega⟩ dL_law_910 (fun H locs L1 => ?_)
  refine lv_aload_n X.1 X.2.1 dL_law_913 rfl (lv_at hl 2 rfl) ?_
  refine lr_wi (As := []) (rest := [_]) X L1 (fun M r hp1 q => q) (fun A hp M sc ar sm hA hO _ hM hz => c_X7_wipe l G A hp _ hA hO M sc ar sm hM n R hd k cs sk pn pt hz ) mf_X7_wipe tw_1108 tw_1109 tw_1110 ⟨rfl, rfl, Nat.le_of_ble_eq_true rfl, Nat.le_of_ble_eq_true rfl⟩ hl.1 rfl rfl (Nat.le_of_ble_eq_true rfl) ⟨by omega, by omega⟩ dL_law_914 (fun H locs L2 => ?_)
  refine lv_icmp_eq (tgt := 948) X.1 X.2.1 dL_law_917 (by decide) (fun _ => ?_) (fun q => absurd rfl q)
  exact W.widen (by omega) (by omega) (kk _ _ _ L2)
set_option maxHeartbeats 4000000 in
theorem law_op_fault {p : Program} {e : Env} {s : State} {m : MethodId} {args : Array Value} {below : List Frame} {meth : Method} {c : Code} {H : Heap} {locs : List Loc} {cells slots : Nat} {Q : State → Prop} {ls : Array Slot} {G : HG} (l : Launch) {b b6 b7 L : Nat} {xs : Nat → Int32} {x3 : Int32} {z : ST} (O : LO p c s m G b b6 b7 L xs x3 z H locs ls) (hc : cells + 8 ≤ room_1.cells ∧ slots + 1040 ≤ room_1.slots) (kk : ∀ (z1 : ST) (H1 : Heap) (locs1 : List Loc), LI G s b6 b7 z1 z1 H1 locs1 → W p l e room_1 s m args below meth c H1 locs1 (cells + 8) (slots + 1040) Q (F0 m 948 ls [])) : W p l e room_1 s m args below meth c H locs cells slots Q (F0 m 922 ls []) := by
  obtain ⟨n, R, hd, k, cs, sk, pn, pt⟩ := z
  obtain ⟨X, hX, hbl, ⟨i1, i2, i3, i4⟩, L0, hl⟩ := O
  have hbA : ¬ A0 s b := Nat.not_le.mpr hbl
  refine lv_aload_n X.1 X.2.1 dL_law_922 rfl (lv_at hl 1 rfl) ?_
  refine lc_wi (As := []) (rest := []) X L0 (fun r hp1 q => q) (fun A hp hA hO hz => c_X6_fault l G A hp H.size hA hO b6 n R hd k cs sk pn pt hz ) mf_X6_fault tw_746 tw_747 tw_748 ⟨rfl, rfl, Nat.le_of_ble_eq_true rfl, Nat.le_of_ble_eq_true rfl⟩ hl.1 rfl rfl (Nat.le_of_ble_eq_true rfl) ⟨by omega, by omega⟩ dL_law_923 (fun H locs L1 => ?_)
  refine lv_aload_n X.1 X.2.1 dL_law_926 rfl (lv_at hl 2 rfl) ?_
  refine lr_wi (As := []) (rest := [_]) X L1 (fun M r hp1 q => ⟨q.1, q.2.elim (fun a q => q.elim (fun b2 q => q.elim (fun c2 q => ⟨a, b2, c2, q.1, q.2.1⟩)))⟩) (fun A hp M sc ar sm hA hO _ hM hz => c_X7_fault l G A hp _ hA hO M sc ar sm hM n R hd k cs sk pn pt hz ) mf_X7_fault tw_1112 tw_1113 tw_1114 ⟨rfl, rfl, Nat.le_of_ble_eq_true rfl, Nat.le_of_ble_eq_true rfl⟩ hl.1 rfl rfl (Nat.le_of_ble_eq_true rfl) ⟨by omega, by omega⟩ dL_law_927 (fun H locs L2 => ?_)
  refine lv_icmp_eq (tgt := 948) X.1 X.2.1 dL_law_930 (by decide) (fun _ => ?_) (fun q => absurd rfl q)
  exact W.widen (by omega) (by omega) (kk _ _ _ L2)
set_option maxHeartbeats 4000000 in
theorem law_op_load {p : Program} {e : Env} {s : State} {m : MethodId} {args : Array Value} {below : List Frame} {meth : Method} {c : Code} {H : Heap} {locs : List Loc} {cells slots : Nat} {Q : State → Prop} {ls : Array Slot} {G : HG} (l : Launch) {b b6 b7 L : Nat} {xs : Nat → Int32} {x3 : Int32} {z : ST} (O : LO p c s m G b b6 b7 L xs x3 z H locs ls) (hc : cells + 8 ≤ room_1.cells ∧ slots + 1040 ≤ room_1.slots) (kk : ∀ (z1 : ST) (H1 : Heap) (locs1 : List Loc), LI G s b6 b7 z1 z1 H1 locs1 → W p l e room_1 s m args below meth c H1 locs1 (cells + 8) (slots + 1040) Q (F0 m 948 ls [])) : W p l e room_1 s m args below meth c H locs cells slots Q (F0 m 935 ls []) := by
  obtain ⟨n, R, hd, k, cs, sk, pn, pt⟩ := z
  obtain ⟨X, hX, hbl, ⟨i1, i2, i3, i4⟩, L0, hl⟩ := O
  have hbA : ¬ A0 s b := Nat.not_le.mpr hbl
  refine lv_aload_n X.1 X.2.1 dL_law_935 rfl (lv_at hl 1 rfl) ?_
  refine lc_wi (As := []) (rest := []) X L0 (fun r hp1 q => q) (fun A hp hA hO hz => c_X6_load l G A hp H.size hA hO b6 n R hd k cs sk pn pt hz ) mf_X6_load tw_829 tw_830 tw_831 ⟨rfl, rfl, Nat.le_of_ble_eq_true rfl, Nat.le_of_ble_eq_true rfl⟩ hl.1 rfl rfl (Nat.le_of_ble_eq_true rfl) ⟨by omega, by omega⟩ dL_law_936 (fun H locs L1 => ?_)
  refine lv_aload_n X.1 X.2.1 dL_law_939 rfl (lv_at hl 2 rfl) ?_
  refine lr_wi (As := []) (rest := [_]) X L1 (fun M r hp1 q => q) (fun A hp M sc ar sm hA hO _ hM hz => c_X7_load l G A hp _ hA hO M sc ar sm hM n R hd k cs sk pn pt hz ) mf_X7_load tw_1139 tw_1140 tw_1141 ⟨rfl, rfl, Nat.le_of_ble_eq_true rfl, Nat.le_of_ble_eq_true rfl⟩ hl.1 rfl rfl (Nat.le_of_ble_eq_true rfl) ⟨by omega, by omega⟩ dL_law_940 (fun H locs L2 => ?_)
  refine lv_icmp_eq (tgt := 948) X.1 X.2.1 dL_law_943 (by decide) (fun _ => ?_) (fun q => absurd rfl q)
  exact W.widen (by omega) (by omega) (kk _ _ _ L2)
