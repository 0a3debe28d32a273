/-! the law's calls, a row each -/
set_option maxHeartbeats 4000000 in
set_option maxRecDepth 100000 in
theorem lz_flight {p : Program} {l : Launch} {e : Env} {s : State} {m : MethodId} {below : List Frame} {meth : Method} {c : Code} {G : GG} {b L : Nat} {xs : Nat → Int32} (X : LzX p s m meth c G b L xs) {x : Int32} (hin : ∀ j, j ≤ 6 → vp_in (x + nI j) L) {σ : St} (hJ : JJ σ) (kk : ∀ υ, JJ υ → LzW p l e s m below meth c G b 1242 x υ) : LzW p l e s m below meth c G b 168 x σ := by
  intro H locs ls hR hS hl
  obtain ⟨C, hX, hbl, hbA⟩ := X
  have hx := C.1
  have hb := C.2.1
  obtain ⟨r, τ, υ, hf, hg, hJ⟩ := eq_flight hJ (xs (x + nI 1).toNatClampNeg)
  refine lv_aload_n hx hb dL_law_168 rfl (lv_at hl 1 rfl) ?_
  refine lv_aload_n hx hb dL_law_169 rfl (lv_at hl 0 rfl) ?_
  refine lv_iload_n hx hb dL_law_170 rfl (lv_at hl 3 rfl) ?_
  refine lv_iconst (v := nI 1) hx hb dL_law_171 (by decide) ?_
  refine lv_iadd hx hb dL_law_172 ?_
  refine va_sld hx hb hX hbl hbA hS (hin 1 (by decide)) dL_law_173 ?_
  refine x_cvI C hl.1 hR hS (c_X5_flight l G (xs (x + nI 1).toNatClampNeg) σ _ hf) gL_law_X5_flight rfl hdV_X5_flight ⟨Nat.le_of_ble_eq_true rfl, Nat.le_of_ble_eq_true rfl⟩ (by decide) (cz4 rfl) rfl rfl (As := [.int (xs (x + nI 1).toNatClampNeg)]) (rest := []) rfl (Nat.le_of_ble_eq_true rfl) ⟨Nat.le_of_ble_eq_true rfl, Nat.le_of_ble_eq_true rfl⟩ dL_law_174 (fun r1 σ1 H locs hq1 hR hS => ?_)
  have hR : Rp G τ H := by rw [hq1.2] at hR; exact hR
  refine lv_aload_n hx hb dL_law_177 rfl (lv_at hl 2 rfl) ?_
  refine lv_aload_n hx hb dL_law_178 rfl (lv_at hl 0 rfl) ?_
  refine lv_iload_n hx hb dL_law_179 rfl (lv_at hl 3 rfl) ?_
  refine lv_iconst (v := nI 1) hx hb dL_law_180 (by decide) ?_
  refine lv_iadd hx hb dL_law_181 ?_
  refine va_sld hx hb hX hbl hbA hS (hin 1 (by decide)) dL_law_182 ?_
  refine x_cvI C hl.1 hR hS (c_X6_flight l G (xs (x + nI 1).toNatClampNeg) τ _ hg) gL_law_X6_flight rfl hdV_X6_flight ⟨Nat.le_of_ble_eq_true rfl, Nat.le_of_ble_eq_true rfl⟩ (by decide) (cz5 rfl) rfl rfl (As := [.int (xs (x + nI 1).toNatClampNeg)]) (rest := [.int r1]) rfl (Nat.le_of_ble_eq_true rfl) ⟨Nat.le_of_ble_eq_true rfl, Nat.le_of_ble_eq_true rfl⟩ dL_law_183 (fun r2 σ2 H locs hq2 hR hS => ?_)
  have hR : Rp G υ H := by rw [hq2.2] at hR; exact hR
  exact lv_icmp_eq (tgt := 1242) hx hb dL_law_186 (by decide) (fun _ => kk υ hJ _ _ _ hR hS hl) (fun h => absurd (hq1.1.trans hq2.1.symm) h)
set_option maxHeartbeats 4000000 in
set_option maxRecDepth 100000 in
theorem lz_lock {p : Program} {l : Launch} {e : Env} {s : State} {m : MethodId} {below : List Frame} {meth : Method} {c : Code} {G : GG} {b L : Nat} {xs : Nat → Int32} (X : LzX p s m meth c G b L xs) {x : Int32} (hin : ∀ j, j ≤ 6 → vp_in (x + nI j) L) {σ : St} (hJ : JJ σ) (kk : ∀ υ, JJ υ → LzW p l e s m below meth c G b 1242 x υ) : LzW p l e s m below meth c G b 191 x σ := by
  intro H locs ls hR hS hl
  obtain ⟨C, hX, hbl, hbA⟩ := X
  have hx := C.1
  have hb := C.2.1
  obtain ⟨r, τ, υ, hf, hg, hJ⟩ := eq_lock hJ (xs (x + nI 1).toNatClampNeg) (xs (x + nI 2).toNatClampNeg) (xs (x + nI 3).toNatClampNeg)
  refine lv_aload_n hx hb dL_law_191 rfl (lv_at hl 1 rfl) ?_
  refine lv_aload_n hx hb dL_law_192 rfl (lv_at hl 0 rfl) ?_
  refine lv_iload_n hx hb dL_law_193 rfl (lv_at hl 3 rfl) ?_
  refine lv_iconst (v := nI 1) hx hb dL_law_194 (by decide) ?_
  refine lv_iadd hx hb dL_law_195 ?_
  refine va_sld hx hb hX hbl hbA hS (hin 1 (by decide)) dL_law_196 ?_
  refine lv_aload_n hx hb dL_law_197 rfl (lv_at hl 0 rfl) ?_
  refine lv_iload_n hx hb dL_law_198 rfl (lv_at hl 3 rfl) ?_
  refine lv_iconst (v := nI 2) hx hb dL_law_199 (by decide) ?_
  refine lv_iadd hx hb dL_law_200 ?_
  refine va_sld hx hb hX hbl hbA hS (hin 2 (by decide)) dL_law_201 ?_
  refine lv_aload_n hx hb dL_law_202 rfl (lv_at hl 0 rfl) ?_
  refine lv_iload_n hx hb dL_law_203 rfl (lv_at hl 3 rfl) ?_
  refine lv_iconst (v := nI 3) hx hb dL_law_204 (by decide) ?_
  refine lv_iadd hx hb dL_law_205 ?_
  refine va_sld hx hb hX hbl hbA hS (hin 3 (by decide)) dL_law_206 ?_
  refine x_cvI C hl.1 hR hS (c_X5_lock l G (xs (x + nI 1).toNatClampNeg) (xs (x + nI 2).toNatClampNeg) (xs (x + nI 3).toNatClampNeg) σ _ hf) gL_law_X5_lock rfl hdV_X5_lock ⟨Nat.le_of_ble_eq_true rfl, Nat.le_of_ble_eq_true rfl⟩ (by decide) (cz4 rfl) rfl rfl (As := [.int (xs (x + nI 1).toNatClampNeg), .int (xs (x + nI 2).toNatClampNeg), .int (xs (x + nI 3).toNatClampNeg)]) (rest := []) rfl (Nat.le_of_ble_eq_true rfl) ⟨Nat.le_of_ble_eq_true rfl, Nat.le_of_ble_eq_true rfl⟩ dL_law_207 (fun r1 σ1 H locs hq1 hR hS => ?_)
  have hR : Rp G τ H := by rw [hq1.2] at hR; exact hR
  refine lv_aload_n hx hb dL_law_210 rfl (lv_at hl 2 rfl) ?_
  refine lv_aload_n hx hb dL_law_211 rfl (lv_at hl 0 rfl) ?_
  refine lv_iload_n hx hb dL_law_212 rfl (lv_at hl 3 rfl) ?_
  refine lv_iconst (v := nI 1) hx hb dL_law_213 (by decide) ?_
  refine lv_iadd hx hb dL_law_214 ?_
  refine va_sld hx hb hX hbl hbA hS (hin 1 (by decide)) dL_law_215 ?_
  refine lv_aload_n hx hb dL_law_216 rfl (lv_at hl 0 rfl) ?_
  refine lv_iload_n hx hb dL_law_217 rfl (lv_at hl 3 rfl) ?_
  refine lv_iconst (v := nI 2) hx hb dL_law_218 (by decide) ?_
  refine lv_iadd hx hb dL_law_219 ?_
  refine va_sld hx hb hX hbl hbA hS (hin 2 (by decide)) dL_law_220 ?_
  refine lv_aload_n hx hb dL_law_221 rfl (lv_at hl 0 rfl) ?_
  refine lv_iload_n hx hb dL_law_222 rfl (lv_at hl 3 rfl) ?_
  refine lv_iconst (v := nI 3) hx hb dL_law_223 (by decide) ?_
  refine lv_iadd hx hb dL_law_224 ?_
  refine va_sld hx hb hX hbl hbA hS (hin 3 (by decide)) dL_law_225 ?_
  refine x_cvI C hl.1 hR hS (c_X6_lock l G (xs (x + nI 1).toNatClampNeg) (xs (x + nI 2).toNatClampNeg) (xs (x + nI 3).toNatClampNeg) τ _ hg) gL_law_X6_lock rfl hdV_X6_lock ⟨Nat.le_of_ble_eq_true rfl, Nat.le_of_ble_eq_true rfl⟩ (by decide) (cz5 rfl) rfl rfl (As := [.int (xs (x + nI 1).toNatClampNeg), .int (xs (x + nI 2).toNatClampNeg), .int (xs (x + nI 3).toNatClampNeg)]) (rest := [.int r1]) rfl (Nat.le_of_ble_eq_true rfl) ⟨Nat.le_of_ble_eq_true rfl, Nat.le_of_ble_eq_true rfl⟩ dL_law_226 (fun r2 σ2 H locs hq2 hR hS => ?_)
  have hR : Rp G υ H := by rw [hq2.2] at hR; exact hR
  exact lv_icmp_eq (tgt := 1242) hx hb dL_law_229 (by decide) (fun _ => kk υ hJ _ _ _ hR hS hl) (fun h => absurd (hq1.1.trans hq2.1.symm) h)
set_option maxHeartbeats 4000000 in
set_option maxRecDepth 100000 in
theorem lz_strength {p : Program} {l : Launch} {e : Env} {s : State} {m : MethodId} {below : List Frame} {meth : Method} {c : Code} {G : GG} {b L : Nat} {xs : Nat → Int32} (X : LzX p s m meth c G b L xs) {x : Int32} (hin : ∀ j, j ≤ 6 → vp_in (x + nI j) L) {σ : St} (hJ : JJ σ) (kk : ∀ υ, JJ υ → LzW p l e s m below meth c G b 1242 x υ) : LzW p l e s m below meth c G b 234 x σ := by
  intro H locs ls hR hS hl
  obtain ⟨C, hX, hbl, hbA⟩ := X
  have hx := C.1
  have hb := C.2.1
  obtain ⟨r, τ, υ, hf, hg, hJ⟩ := eq_strength hJ (xs (x + nI 1).toNatClampNeg)
  refine lv_aload_n hx hb dL_law_234 rfl (lv_at hl 1 rfl) ?_
  refine lv_aload_n hx hb dL_law_235 rfl (lv_at hl 0 rfl) ?_
  refine lv_iload_n hx hb dL_law_236 rfl (lv_at hl 3 rfl) ?_
  refine lv_iconst (v := nI 1) hx hb dL_law_237 (by decide) ?_
  refine lv_iadd hx hb dL_law_238 ?_
  refine va_sld hx hb hX hbl hbA hS (hin 1 (by decide)) dL_law_239 ?_
  refine x_cvI C hl.1 hR hS (c_X5_strength l G (xs (x + nI 1).toNatClampNeg) σ _ hf) gL_law_X5_strength rfl hdV_X5_strength ⟨Nat.le_of_ble_eq_true rfl, Nat.le_of_ble_eq_true rfl⟩ (by decide) (cz4 rfl) rfl rfl (As := [.int (xs (x + nI 1).toNatClampNeg)]) (rest := []) rfl (Nat.le_of_ble_eq_true rfl) ⟨Nat.le_of_ble_eq_true rfl, Nat.le_of_ble_eq_true rfl⟩ dL_law_240 (fun r1 σ1 H locs hq1 hR hS => ?_)
  have hR : Rp G τ H := by rw [hq1.2] at hR; exact hR
  refine lv_aload_n hx hb dL_law_243 rfl (lv_at hl 2 rfl) ?_
  refine lv_aload_n hx hb dL_law_244 rfl (lv_at hl 0 rfl) ?_
  refine lv_iload_n hx hb dL_law_245 rfl (lv_at hl 3 rfl) ?_
  refine lv_iconst (v := nI 1) hx hb dL_law_246 (by decide) ?_
  refine lv_iadd hx hb dL_law_247 ?_
  refine va_sld hx hb hX hbl hbA hS (hin 1 (by decide)) dL_law_248 ?_
  refine x_cvI C hl.1 hR hS (c_X6_strength l G (xs (x + nI 1).toNatClampNeg) τ _ hg) gL_law_X6_strength rfl hdV_X6_strength ⟨Nat.le_of_ble_eq_true rfl, Nat.le_of_ble_eq_true rfl⟩ (by decide) (cz5 rfl) rfl rfl (As := [.int (xs (x + nI 1).toNatClampNeg)]) (rest := [.int r1]) rfl (Nat.le_of_ble_eq_true rfl) ⟨Nat.le_of_ble_eq_true rfl, Nat.le_of_ble_eq_true rfl⟩ dL_law_249 (fun r2 σ2 H locs hq2 hR hS => ?_)
  have hR : Rp G υ H := by rw [hq2.2] at hR; exact hR
  exact lv_icmp_eq (tgt := 1242) hx hb dL_law_252 (by decide) (fun _ => kk υ hJ _ _ _ hR hS hl) (fun h => absurd (hq1.1.trans hq2.1.symm) h)
set_option maxHeartbeats 4000000 in
set_option maxRecDepth 100000 in
theorem lz_turn {p : Program} {l : Launch} {e : Env} {s : State} {m : MethodId} {below : List Frame} {meth : Method} {c : Code} {G : GG} {b L : Nat} {xs : Nat → Int32} (X : LzX p s m meth c G b L xs) {x : Int32} (hin : ∀ j, j ≤ 6 → vp_in (x + nI j) L) {σ : St} (hJ : JJ σ) (kk : ∀ υ, JJ υ → LzW p l e s m below meth c G b 1242 x υ) : LzW p l e s m below meth c G b 257 x σ := by
  intro H locs ls hR hS hl
  obtain ⟨C, hX, hbl, hbA⟩ := X
  have hx := C.1
  have hb := C.2.1
  obtain ⟨r, τ, υ, hf, hg, hJ⟩ := eq_turn hJ (xs (x + nI 1).toNatClampNeg)
  refine lv_aload_n hx hb dL_law_257 rfl (lv_at hl 1 rfl) ?_
  refine lv_aload_n hx hb dL_law_258 rfl (lv_at hl 0 rfl) ?_
  refine lv_iload_n hx hb dL_law_259 rfl (lv_at hl 3 rfl) ?_
  refine lv_iconst (v := nI 1) hx hb dL_law_260 (by decide) ?_
  refine lv_iadd hx hb dL_law_261 ?_
  refine va_sld hx hb hX hbl hbA hS (hin 1 (by decide)) dL_law_262 ?_
  refine x_cvI C hl.1 hR hS (c_X5_turn l G (xs (x + nI 1).toNatClampNeg) σ _ hf) gL_law_X5_turn rfl hdV_X5_turn ⟨Nat.le_of_ble_eq_true rfl, Nat.le_of_ble_eq_true rfl⟩ (by decide) (cz4 rfl) rfl rfl (As := [.int (xs (x + nI 1).toNatClampNeg)]) (rest := []) rfl (Nat.le_of_ble_eq_true rfl) ⟨Nat.le_of_ble_eq_true rfl, Nat.le_of_ble_eq_true rfl⟩ dL_law_263 (fun r1 σ1 H locs hq1 hR hS => ?_)
  have hR : Rp G τ H := by rw [hq1.2] at hR; exact hR
  refine lv_aload_n hx hb dL_law_266 rfl (lv_at hl 2 rfl) ?_
  refine lv_aload_n hx hb dL_law_267 rfl (lv_at hl 0 rfl) ?_
  refine lv_iload_n hx hb dL_law_268 rfl (lv_at hl 3 rfl) ?_
  refine lv_iconst (v := nI 1) hx hb dL_law_269 (by decide) ?_
  refine lv_iadd hx hb dL_law_270 ?_
  refine va_sld hx hb hX hbl hbA hS (hin 1 (by decide)) dL_law_271 ?_
  refine x_cvI C hl.1 hR hS (c_X6_turn l G (xs (x + nI 1).toNatClampNeg) τ _ hg) gL_law_X6_turn rfl hdV_X6_turn ⟨Nat.le_of_ble_eq_true rfl, Nat.le_of_ble_eq_true rfl⟩ (by decide) (cz5 rfl) rfl rfl (As := [.int (xs (x + nI 1).toNatClampNeg)]) (rest := [.int r1]) rfl (Nat.le_of_ble_eq_true rfl) ⟨Nat.le_of_ble_eq_true rfl, Nat.le_of_ble_eq_true rfl⟩ dL_law_272 (fun r2 σ2 H locs hq2 hR hS => ?_)
  have hR : Rp G υ H := by rw [hq2.2] at hR; exact hR
  exact lv_icmp_eq (tgt := 1242) hx hb dL_law_275 (by decide) (fun _ => kk υ hJ _ _ _ hR hS hl) (fun h => absurd (hq1.1.trans hq2.1.symm) h)
set_option maxHeartbeats 4000000 in
set_option maxRecDepth 100000 in
theorem lz_type {p : Program} {l : Launch} {e : Env} {s : State} {m : MethodId} {below : List Frame} {meth : Method} {c : Code} {G : GG} {b L : Nat} {xs : Nat → Int32} (X : LzX p s m meth c G b L xs) {x : Int32} (hin : ∀ j, j ≤ 6 → vp_in (x + nI j) L) {σ : St} (hJ : JJ σ) (kk : ∀ υ, JJ υ → LzW p l e s m below meth c G b 1242 x υ) : LzW p l e s m below meth c G b 280 x σ := by
  intro H locs ls hR hS hl
  obtain ⟨C, hX, hbl, hbA⟩ := X
  have hx := C.1
  have hb := C.2.1
  obtain ⟨r, τ, υ, hf, hg, hJ⟩ := eq_type hJ (xs (x + nI 1).toNatClampNeg)
  refine lv_aload_n hx hb dL_law_280 rfl (lv_at hl 1 rfl) ?_
  refine lv_aload_n hx hb dL_law_281 rfl (lv_at hl 0 rfl) ?_
  refine lv_iload_n hx hb dL_law_282 rfl (lv_at hl 3 rfl) ?_
  refine lv_iconst (v := nI 1) hx hb dL_law_283 (by decide) ?_
  refine lv_iadd hx hb dL_law_284 ?_
  refine va_sld hx hb hX hbl hbA hS (hin 1 (by decide)) dL_law_285 ?_
  refine x_cvI C hl.1 hR hS (c_X5_type l G (xs (x + nI 1).toNatClampNeg) σ _ hf) gL_law_X5_type rfl hdV_X5_type ⟨Nat.le_of_ble_eq_true rfl, Nat.le_of_ble_eq_true rfl⟩ (by decide) (cz4 rfl) rfl rfl (As := [.int (xs (x + nI 1).toNatClampNeg)]) (rest := []) rfl (Nat.le_of_ble_eq_true rfl) ⟨Nat.le_of_ble_eq_true rfl, Nat.le_of_ble_eq_true rfl⟩ dL_law_286 (fun r1 σ1 H locs hq1 hR hS => ?_)
  have hR : Rp G τ H := by rw [hq1.2] at hR; exact hR
  refine lv_aload_n hx hb dL_law_289 rfl (lv_at hl 2 rfl) ?_
  refine lv_aload_n hx hb dL_law_290 rfl (lv_at hl 0 rfl) ?_
  refine lv_iload_n hx hb dL_law_291 rfl (lv_at hl 3 rfl) ?_
  refine lv_iconst (v := nI 1) hx hb dL_law_292 (by decide) ?_
  refine lv_iadd hx hb dL_law_293 ?_
  refine va_sld hx hb hX hbl hbA hS (hin 1 (by decide)) dL_law_294 ?_
  refine x_cvI C hl.1 hR hS (c_X6_type l G (xs (x + nI 1).toNatClampNeg) τ _ hg) gL_law_X6_type rfl hdV_X6_type ⟨Nat.le_of_ble_eq_true rfl, Nat.le_of_ble_eq_true rfl⟩ (by decide) (cz5 rfl) rfl rfl (As := [.int (xs (x + nI 1).toNatClampNeg)]) (rest := [.int r1]) rfl (Nat.le_of_ble_eq_true rfl) ⟨Nat.le_of_ble_eq_true rfl, Nat.le_of_ble_eq_true rfl⟩ dL_law_295 (fun r2 σ2 H locs hq2 hR hS => ?_)
  have hR : Rp G υ H := by rw [hq2.2] at hR; exact hR
  exact lv_icmp_eq (tgt := 1242) hx hb dL_law_298 (by decide) (fun _ => kk υ hJ _ _ _ hR hS hl) (fun h => absurd (hq1.1.trans hq2.1.symm) h)
set_option maxHeartbeats 4000000 in
set_option maxRecDepth 100000 in
theorem lz_clear {p : Program} {l : Launch} {e : Env} {s : State} {m : MethodId} {below : List Frame} {meth : Method} {c : Code} {G : GG} {b L : Nat} {xs : Nat → Int32} (X : LzX p s m meth c G b L xs) {x : Int32} (hin : ∀ j, j ≤ 6 → vp_in (x + nI j) L) {σ : St} (hJ : JJ σ) (kk : ∀ υ, JJ υ → LzW p l e s m below meth c G b 1242 x υ) : LzW p l e s m below meth c G b 303 x σ := by
  intro H locs ls hR hS hl
  obtain ⟨C, hX, hbl, hbA⟩ := X
  have hx := C.1
  have hb := C.2.1
  obtain ⟨r, τ, υ, hf, hg, hJ⟩ := eq_clear hJ 
  refine lv_aload_n hx hb dL_law_303 rfl (lv_at hl 1 rfl) ?_
  refine x_cvI C hl.1 hR hS (c_X5_clear l G  σ _ hf) gL_law_X5_clear rfl hdV_X5_clear ⟨Nat.le_of_ble_eq_true rfl, Nat.le_of_ble_eq_true rfl⟩ (by decide) (cz4 rfl) rfl rfl (As := []) (rest := []) rfl (Nat.le_of_ble_eq_true rfl) ⟨Nat.le_of_ble_eq_true rfl, Nat.le_of_ble_eq_true rfl⟩ dL_law_304 (fun r1 σ1 H locs hq1 hR hS => ?_)
  have hR : Rp G τ H := by rw [hq1.2] at hR; exact hR
  refine lv_aload_n hx hb dL_law_307 rfl (lv_at hl 2 rfl) ?_
  refine x_cvI C hl.1 hR hS (c_X6_clear l G  τ _ hg) gL_law_X6_clear rfl hdV_X6_clear ⟨Nat.le_of_ble_eq_true rfl, Nat.le_of_ble_eq_true rfl⟩ (by decide) (cz5 rfl) rfl rfl (As := []) (rest := [.int r1]) rfl (Nat.le_of_ble_eq_true rfl) ⟨Nat.le_of_ble_eq_true rfl, Nat.le_of_ble_eq_true rfl⟩ dL_law_308 (fun r2 σ2 H locs hq2 hR hS => ?_)
  have hR : Rp G υ H := by rw [hq2.2] at hR; exact hR
  exact lv_icmp_eq (tgt := 1242) hx hb dL_law_311 (by decide) (fun _ => kk υ hJ _ _ _ hR hS hl) (fun h => absurd (hq1.1.trans hq2.1.symm) h)
set_option maxHeartbeats 4000000 in
set_option maxRecDepth 100000 in
theorem lz_read {p : Program} {l : Launch} {e : Env} {s : State} {m : MethodId} {below : List Frame} {meth : Method} {c : Code} {G : GG} {b L : Nat} {xs : Nat → Int32} (X : LzX p s m meth c G b L xs) {x : Int32} (hin : ∀ j, j ≤ 6 → vp_in (x + nI j) L) {σ : St} (hJ : JJ σ) (kk : ∀ υ, JJ υ → LzW p l e s m below meth c G b 1242 x υ) : LzW p l e s m below meth c G b 316 x σ := by
  intro H locs ls hR hS hl
  obtain ⟨C, hX, hbl, hbA⟩ := X
  have hx := C.1
  have hb := C.2.1
  obtain ⟨r, τ, υ, hf, hg, hJ⟩ := eq_read hJ 
  refine lv_aload_n hx hb dL_law_316 rfl (lv_at hl 1 rfl) ?_
  refine x_cvI C hl.1 hR hS (c_X5_read l G  σ _ hf) gL_law_X5_read rfl hdV_X5_read ⟨Nat.le_of_ble_eq_true rfl, Nat.le_of_ble_eq_true rfl⟩ (by decide) (cz4 rfl) rfl rfl (As := []) (rest := []) rfl (Nat.le_of_ble_eq_true rfl) ⟨Nat.le_of_ble_eq_true rfl, Nat.le_of_ble_eq_true rfl⟩ dL_law_317 (fun r1 σ1 H locs hq1 hR hS => ?_)
  have hR : Rp G τ H := by rw [hq1.2] at hR; exact hR
  refine lv_aload_n hx hb dL_law_320 rfl (lv_at hl 2 rfl) ?_
  refine x_cvI C hl.1 hR hS (c_X6_read l G  τ _ hg) gL_law_X6_read rfl hdV_X6_read ⟨Nat.le_of_ble_eq_true rfl, Nat.le_of_ble_eq_true rfl⟩ (by decide) (cz5 rfl) rfl rfl (As := []) (rest := [.int r1]) rfl (Nat.le_of_ble_eq_true rfl) ⟨Nat.le_of_ble_eq_true rfl, Nat.le_of_ble_eq_true rfl⟩ dL_law_321 (fun r2 σ2 H locs hq2 hR hS => ?_)
  have hR : Rp G υ H := by rw [hq2.2] at hR; exact hR
  exact lv_icmp_eq (tgt := 1242) hx hb dL_law_324 (by decide) (fun _ => kk υ hJ _ _ _ hR hS hl) (fun h => absurd (hq1.1.trans hq2.1.symm) h)
set_option maxHeartbeats 4000000 in
set_option maxRecDepth 100000 in
theorem lz_run {p : Program} {l : Launch} {e : Env} {s : State} {m : MethodId} {below : List Frame} {meth : Method} {c : Code} {G : GG} {b L : Nat} {xs : Nat → Int32} (X : LzX p s m meth c G b L xs) {x : Int32} (hin : ∀ j, j ≤ 6 → vp_in (x + nI j) L) {σ : St} (hJ : JJ σ) (kk : ∀ υ, JJ υ → LzW p l e s m below meth c G b 1242 x υ) : LzW p l e s m below meth c G b 329 x σ := by
  intro H locs ls hR hS hl
  obtain ⟨C, hX, hbl, hbA⟩ := X
  have hx := C.1
  have hb := C.2.1
  obtain ⟨r, τ, υ, hf, hg, hJ⟩ := eq_run hJ (xs (x + nI 1).toNatClampNeg) (xs (x + nI 2).toNatClampNeg) (xs (x + nI 3).toNatClampNeg) (xs (x + nI 4).toNatClampNeg)
  refine lv_aload_n hx hb dL_law_329 rfl (lv_at hl 1 rfl) ?_
  refine lv_aload_n hx hb dL_law_330 rfl (lv_at hl 0 rfl) ?_
  refine lv_iload_n hx hb dL_law_331 rfl (lv_at hl 3 rfl) ?_
  refine lv_iconst (v := nI 1) hx hb dL_law_332 (by decide) ?_
  refine lv_iadd hx hb dL_law_333 ?_
  refine va_sld hx hb hX hbl hbA hS (hin 1 (by decide)) dL_law_334 ?_
  refine lv_aload_n hx hb dL_law_335 rfl (lv_at hl 0 rfl) ?_
  refine lv_iload_n hx hb dL_law_336 rfl (lv_at hl 3 rfl) ?_
  refine lv_iconst (v := nI 2) hx hb dL_law_337 (by decide) ?_
  refine lv_iadd hx hb dL_law_338 ?_
  refine va_sld hx hb hX hbl hbA hS (hin 2 (by decide)) dL_law_339 ?_
  refine lv_aload_n hx hb dL_law_340 rfl (lv_at hl 0 rfl) ?_
  refine lv_iload_n hx hb dL_law_341 rfl (lv_at hl 3 rfl) ?_
  refine lv_iconst (v := nI 3) hx hb dL_law_342 (by decide) ?_
  refine lv_iadd hx hb dL_law_343 ?_
  refine va_sld hx hb hX hbl hbA hS (hin 3 (by decide)) dL_law_344 ?_
  refine lv_aload_n hx hb dL_law_345 rfl (lv_at hl 0 rfl) ?_
  refine lv_iload_n hx hb dL_law_346 rfl (lv_at hl 3 rfl) ?_
  refine lv_iconst (v := nI 4) hx hb dL_law_347 (by decide) ?_
  refine lv_iadd hx hb dL_law_348 ?_
  refine va_sld hx hb hX hbl hbA hS (hin 4 (by decide)) dL_law_349 ?_
  refine x_cvI C hl.1 hR hS (c_X5_run l G (xs (x + nI 1).toNatClampNeg) (xs (x + nI 2).toNatClampNeg) (xs (x + nI 3).toNatClampNeg) (xs (x + nI 4).toNatClampNeg) σ _ hf) gL_law_X5_run rfl hdV_X5_run ⟨Nat.le_of_ble_eq_true rfl, Nat.le_of_ble_eq_true rfl⟩ (by decide) (cz4 rfl) rfl rfl (As := [.int (xs (x + nI 1).toNatClampNeg), .int (xs (x + nI 2).toNatClampNeg), .int (xs (x + nI 3).toNatClampNeg), .int (xs (x + nI 4).toNatClampNeg)]) (rest := []) rfl (Nat.le_of_ble_eq_true rfl) ⟨Nat.le_of_ble_eq_true rfl, Nat.le_of_ble_eq_true rfl⟩ dL_law_350 (fun r1 σ1 H locs hq1 hR hS => ?_)
  have hR : Rp G τ H := by rw [hq1.2] at hR; exact hR
  refine lv_aload_n hx hb dL_law_353 rfl (lv_at hl 2 rfl) ?_
  refine lv_aload_n hx hb dL_law_354 rfl (lv_at hl 0 rfl) ?_
  refine lv_iload_n hx hb dL_law_355 rfl (lv_at hl 3 rfl) ?_
  refine lv_iconst (v := nI 1) hx hb dL_law_356 (by decide) ?_
  refine lv_iadd hx hb dL_law_357 ?_
  refine va_sld hx hb hX hbl hbA hS (hin 1 (by decide)) dL_law_358 ?_
  refine lv_aload_n hx hb dL_law_359 rfl (lv_at hl 0 rfl) ?_
  refine lv_iload_n hx hb dL_law_360 rfl (lv_at hl 3 rfl) ?_
  refine lv_iconst (v := nI 2) hx hb dL_law_361 (by decide) ?_
  refine lv_iadd hx hb dL_law_362 ?_
  refine va_sld hx hb hX hbl hbA hS (hin 2 (by decide)) dL_law_363 ?_
  refine lv_aload_n hx hb dL_law_364 rfl (lv_at hl 0 rfl) ?_
  refine lv_iload_n hx hb dL_law_365 rfl (lv_at hl 3 rfl) ?_
  refine lv_iconst (v := nI 3) hx hb dL_law_366 (by decide) ?_
  refine lv_iadd hx hb dL_law_367 ?_
  refine va_sld hx hb hX hbl hbA hS (hin 3 (by decide)) dL_law_368 ?_
  refine lv_aload_n hx hb dL_law_369 rfl (lv_at hl 0 rfl) ?_
  refine lv_iload_n hx hb dL_law_370 rfl (lv_at hl 3 rfl) ?_
  refine lv_iconst (v := nI 4) hx hb dL_law_371 (by decide) ?_
  refine lv_iadd hx hb dL_law_372 ?_
  refine va_sld hx hb hX hbl hbA hS (hin 4 (by decide)) dL_law_373 ?_
  refine x_cvI C hl.1 hR hS (c_X6_run l G (xs (x + nI 1).toNatClampNeg) (xs (x + nI 2).toNatClampNeg) (xs (x + nI 3).toNatClampNeg) (xs (x + nI 4).toNatClampNeg) τ _ hg) gL_law_X6_run rfl hdV_X6_run ⟨Nat.le_of_ble_eq_true rfl, Nat.le_of_ble_eq_true rfl⟩ (by decide) (cz5 rfl) rfl rfl (As := [.int (xs (x + nI 1).toNatClampNeg), .int (xs (x + nI 2).toNatClampNeg), .int (xs (x + nI 3).toNatClampNeg), .int (xs (x + nI 4).toNatClampNeg)]) (rest := [.int r1]) rfl (Nat.le_of_ble_eq_true rfl) ⟨Nat.le_of_ble_eq_true rfl, Nat.le_of_ble_eq_true rfl⟩ dL_law_374 (fun r2 σ2 H locs hq2 hR hS => ?_)
  have hR : Rp G υ H := by rw [hq2.2] at hR; exact hR
  exact lv_icmp_eq (tgt := 1242) hx hb dL_law_377 (by decide) (fun _ => kk υ hJ _ _ _ hR hS hl) (fun h => absurd (hq1.1.trans hq2.1.symm) h)
set_option maxHeartbeats 4000000 in
set_option maxRecDepth 100000 in
theorem lz_undo {p : Program} {l : Launch} {e : Env} {s : State} {m : MethodId} {below : List Frame} {meth : Method} {c : Code} {G : GG} {b L : Nat} {xs : Nat → Int32} (X : LzX p s m meth c G b L xs) {x : Int32} (hin : ∀ j, j ≤ 6 → vp_in (x + nI j) L) {σ : St} (hJ : JJ σ) (kk : ∀ υ, JJ υ → LzW p l e s m below meth c G b 1242 x υ) : LzW p l e s m below meth c G b 382 x σ := by
  intro H locs ls hR hS hl
  obtain ⟨C, hX, hbl, hbA⟩ := X
  have hx := C.1
  have hb := C.2.1
  obtain ⟨r, τ, υ, hf, hg, hJ⟩ := eq_undo hJ 
  refine lv_aload_n hx hb dL_law_382 rfl (lv_at hl 1 rfl) ?_
  refine x_cvI C hl.1 hR hS (c_X5_undo l G  σ _ hf) gL_law_X5_undo rfl hdV_X5_undo ⟨Nat.le_of_ble_eq_true rfl, Nat.le_of_ble_eq_true rfl⟩ (by decide) (cz4 rfl) rfl rfl (As := []) (rest := []) rfl (Nat.le_of_ble_eq_true rfl) ⟨Nat.le_of_ble_eq_true rfl, Nat.le_of_ble_eq_true rfl⟩ dL_law_383 (fun r1 σ1 H locs hq1 hR hS => ?_)
  have hR : Rp G τ H := by rw [hq1.2] at hR; exact hR
  refine lv_aload_n hx hb dL_law_386 rfl (lv_at hl 2 rfl) ?_
  refine x_cvI C hl.1 hR hS (c_X6_undo l G  τ _ hg) gL_law_X6_undo rfl hdV_X6_undo ⟨Nat.le_of_ble_eq_true rfl, Nat.le_of_ble_eq_true rfl⟩ (by decide) (cz5 rfl) rfl rfl (As := []) (rest := [.int r1]) rfl (Nat.le_of_ble_eq_true rfl) ⟨Nat.le_of_ble_eq_true rfl, Nat.le_of_ble_eq_true rfl⟩ dL_law_387 (fun r2 σ2 H locs hq2 hR hS => ?_)
  have hR : Rp G υ H := by rw [hq2.2] at hR; exact hR
  exact lv_icmp_eq (tgt := 1242) hx hb dL_law_390 (by decide) (fun _ => kk υ hJ _ _ _ hR hS hl) (fun h => absurd (hq1.1.trans hq2.1.symm) h)
set_option maxHeartbeats 4000000 in
set_option maxRecDepth 100000 in
theorem lz_of {p : Program} {l : Launch} {e : Env} {s : State} {m : MethodId} {below : List Frame} {meth : Method} {c : Code} {G : GG} {b L : Nat} {xs : Nat → Int32} (X : LzX p s m meth c G b L xs) {x : Int32} (hin : ∀ j, j ≤ 6 → vp_in (x + nI j) L) {σ : St} (hJ : JJ σ) (kk : ∀ υ, JJ υ → LzW p l e s m below meth c G b 1242 x υ) : LzW p l e s m below meth c G b 395 x σ := by
  intro H locs ls hR hS hl
  obtain ⟨C, hX, hbl, hbA⟩ := X
  have hx := C.1
  have hb := C.2.1
  obtain ⟨r, τ, υ, hf, hg, hJ⟩ := eq_of hJ (xs (x + nI 1).toNatClampNeg) (xs (x + nI 2).toNatClampNeg)
  refine lv_aload_n hx hb dL_law_395 rfl (lv_at hl 1 rfl) ?_
  refine lv_aload_n hx hb dL_law_396 rfl (lv_at hl 0 rfl) ?_
  refine lv_iload_n hx hb dL_law_397 rfl (lv_at hl 3 rfl) ?_
  refine lv_iconst (v := nI 1) hx hb dL_law_398 (by decide) ?_
  refine lv_iadd hx hb dL_law_399 ?_
  refine va_sld hx hb hX hbl hbA hS (hin 1 (by decide)) dL_law_400 ?_
  refine lv_aload_n hx hb dL_law_401 rfl (lv_at hl 0 rfl) ?_
  refine lv_iload_n hx hb dL_law_402 rfl (lv_at hl 3 rfl) ?_
  refine lv_iconst (v := nI 2) hx hb dL_law_403 (by decide) ?_
  refine lv_iadd hx hb dL_law_404 ?_
  refine va_sld hx hb hX hbl hbA hS (hin 2 (by decide)) dL_law_405 ?_
  refine x_cvI C hl.1 hR hS (c_X5_of l G (xs (x + nI 1).toNatClampNeg) (xs (x + nI 2).toNatClampNeg) σ _ hf) gL_law_X5_of rfl hdV_X5_of ⟨Nat.le_of_ble_eq_true rfl, Nat.le_of_ble_eq_true rfl⟩ (by decide) (cz4 rfl) rfl rfl (As := [.int (xs (x + nI 1).toNatClampNeg), .int (xs (x + nI 2).toNatClampNeg)]) (rest := []) rfl (Nat.le_of_ble_eq_true rfl) ⟨Nat.le_of_ble_eq_true rfl, Nat.le_of_ble_eq_true rfl⟩ dL_law_406 (fun r1 σ1 H locs hq1 hR hS => ?_)
  have hR : Rp G τ H := by rw [hq1.2] at hR; exact hR
  refine lv_aload_n hx hb dL_law_409 rfl (lv_at hl 2 rfl) ?_
  refine lv_aload_n hx hb dL_law_410 rfl (lv_at hl 0 rfl) ?_
  refine lv_iload_n hx hb dL_law_411 rfl (lv_at hl 3 rfl) ?_
  refine lv_iconst (v := nI 1) hx hb dL_law_412 (by decide) ?_
  refine lv_iadd hx hb dL_law_413 ?_
  refine va_sld hx hb hX hbl hbA hS (hin 1 (by decide)) dL_law_414 ?_
  refine lv_aload_n hx hb dL_law_415 rfl (lv_at hl 0 rfl) ?_
  refine lv_iload_n hx hb dL_law_416 rfl (lv_at hl 3 rfl) ?_
  refine lv_iconst (v := nI 2) hx hb dL_law_417 (by decide) ?_
  refine lv_iadd hx hb dL_law_418 ?_
  refine va_sld hx hb hX hbl hbA hS (hin 2 (by decide)) dL_law_419 ?_
  refine x_cvI C hl.1 hR hS (c_X6_of l G (xs (x + nI 1).toNatClampNeg) (xs (x + nI 2).toNatClampNeg) τ _ hg) gL_law_X6_of rfl hdV_X6_of ⟨Nat.le_of_ble_eq_true rfl, Nat.le_of_ble_eq_true rfl⟩ (by decide) (cz5 rfl) rfl rfl (As := [.int (xs (x + nI 1).toNatClampNeg), .int (xs (x + nI 2).toNatClampNeg)]) (rest := [.int r1]) rfl (Nat.le_of_ble_eq_true rfl) ⟨Nat.le_of_ble_eq_true rfl, Nat.le_of_ble_eq_true rfl⟩ dL_law_420 (fun r2 σ2 H locs hq2 hR hS => ?_)
  have hR : Rp G υ H := by rw [hq2.2] at hR; exact hR
  exact lv_icmp_eq (tgt := 1242) hx hb dL_law_423 (by decide) (fun _ => kk υ hJ _ _ _ hR hS hl) (fun h => absurd (hq1.1.trans hq2.1.symm) h)
