theorem hdV_X4_tell : yX4_tell.cls = RX4 ∧ yX4_tell.cls ≠ "java/lang/invoke/MethodHandle" ∧ yX4_tell.cls ≠ "java/lang/invoke/VarHandle" ∧ (parseMethodDescriptor yX4_tell.desc).map (fun d => d.parameters.length) = some 5 := by decide +kernel
def f_X4_tell (x2 : Int32) (x3 : Int32) (x4 : Int32) (x5 : Int32) (σ : St) : Option (St) :=
  some (pI (pI (pI (pI (pI (pI (pI σ 61 0 x2) 61 1 x3) 61 2 x4) 61 3 x5) 61 4 (sI σ 1 1)) 61 5 (sI σ 1 2)) 61 6 0)
set_option maxHeartbeats 4000000 in
set_option maxRecDepth 100000 in
theorem c_X4_tell (l : Launch) (G : GG) (x2 : Int32) (x3 : Int32) (x4 : Int32) (x5 : Int32) (σ : St) (res : St) (hf : f_X4_tell x2 x3 x4 x5 σ = some res) : CV l yX4_tell wsX4_tell 0 [.ref (G.2.1 61), .ref (G.2.1 1), .int x2, .int x3, .int x4, .int x5] G σ (fun u => u = res) := by
  refine x_ent (ret := none) cX4_tell 6 (by decide) rfl (Nat.le_of_ble_eq_true rfl) ?_
  intro p e s m below meth c ls C hR hS hl
  have C : Cx p s m [.ref (G.2.1 61), .ref (G.2.1 1), .int x2, .int x3, .int x4, .int x5].toArray meth c cX4_tell RX4 wsX4_tell none 6 G := C
  have hx := C.1
  have hb := C.2.1
  have hl : lv_has ls 6 [(0, .ref (G.2.1 61)), (1, .ref (G.2.1 1)), (2, .int x2), (3, .int x3), (4, .int x4), (5, .int x5)] := hl
  have inX4 : ∀ w ∈ u_ws RX4 TX4 14, w ∈ wsX4_tell := fun w h => List.mem_cons_of_mem _ (List.mem_append_left _ (List.mem_append_right _ h))
  have inX0 : ∀ w ∈ u_ws RX0 TX0 14, w ∈ wsX4_tell := fun w h => List.mem_cons_of_mem _ (List.mem_append_right _ h)
  unfold f_X4_tell at hf
  refine lv_aload_n hx hb dX4_tell_0 rfl (lv_at hl 0 rfl) ?_
  refine lv_iload_n hx hb dX4_tell_1 rfl (lv_at hl 2 rfl) ?_
  refine x_put (τ := (pI σ 61 0 x2)) C hR hS inX4 tyX4 tyX4_ok nmX4 61 (by decide) (cz3 rfl) rfl 0 (by decide) (pfI3_0 rfl) pI_o 1 rfl rfl rfl rfl (Nat.le_of_ble_eq_true rfl) dX4_tell_2 (fun H locs hR hS => ?_)
  refine lv_aload_n hx hb dX4_tell_5 rfl (lv_at hl 0 rfl) ?_
  refine lv_iload_n hx hb dX4_tell_6 rfl (lv_at hl 3 rfl) ?_
  refine x_put (τ := (pI (pI σ 61 0 x2) 61 1 x3)) C hR hS inX4 tyX4 tyX4_ok nmX4 61 (by decide) (cz3 rfl) rfl 1 (by decide) (pfI3_1 rfl) pI_o 2 rfl rfl rfl rfl (Nat.le_of_ble_eq_true rfl) dX4_tell_7 (fun H locs hR hS => ?_)
  refine lv_aload_n hx hb dX4_tell_10 rfl (lv_at hl 0 rfl) ?_
  refine lv_iload hx hb dX4_tell_11 (lv_at hl 4 rfl) ?_
  refine x_put (τ := (pI (pI (pI σ 61 0 x2) 61 1 x3) 61 2 x4)) C hR hS inX4 tyX4 tyX4_ok nmX4 61 (by decide) (cz3 rfl) rfl 2 (by decide) (pfI3_2 rfl) pI_o 3 rfl rfl rfl rfl (Nat.le_of_ble_eq_true rfl) dX4_tell_13 (fun H locs hR hS => ?_)
  refine lv_aload_n hx hb dX4_tell_16 rfl (lv_at hl 0 rfl) ?_
  refine lv_iload hx hb dX4_tell_17 (lv_at hl 5 rfl) ?_
  refine x_put (τ := (pI (pI (pI (pI σ 61 0 x2) 61 1 x3) 61 2 x4) 61 3 x5)) C hR hS inX4 tyX4 tyX4_ok nmX4 61 (by decide) (cz3 rfl) rfl 3 (by decide) (pfI3_3 rfl) pI_o 4 rfl rfl rfl rfl (Nat.le_of_ble_eq_true rfl) dX4_tell_19 (fun H locs hR hS => ?_)
  refine lv_aload_n hx hb dX4_tell_22 rfl (lv_at hl 0 rfl) ?_
  refine lv_aload_n hx hb dX4_tell_23 rfl (lv_at hl 1 rfl) ?_
  refine x_get C hR inX0 1 (by decide) (cz0 rfl) rfl 1 (by decide) 5 rfl (.int (sI σ 1 1)) rfl dX4_tell_24 ?_
  refine x_put (τ := (pI (pI (pI (pI (pI σ 61 0 x2) 61 1 x3) 61 2 x4) 61 3 x5) 61 4 (sI σ 1 1))) C hR hS inX4 tyX4 tyX4_ok nmX4 61 (by decide) (cz3 rfl) rfl 4 (by decide) (pfI3_4 rfl) pI_o 6 rfl rfl rfl rfl (Nat.le_of_ble_eq_true rfl) dX4_tell_27 (fun H locs hR hS => ?_)
  refine lv_aload_n hx hb dX4_tell_30 rfl (lv_at hl 0 rfl) ?_
  refine lv_aload_n hx hb dX4_tell_31 rfl (lv_at hl 1 rfl) ?_
  refine x_get C hR inX0 1 (by decide) (cz0 rfl) rfl 2 (by decide) 7 rfl (.int (sI σ 1 2)) rfl dX4_tell_32 ?_
  refine x_put (τ := (pI (pI (pI (pI (pI (pI σ 61 0 x2) 61 1 x3) 61 2 x4) 61 3 x5) 61 4 (sI σ 1 1)) 61 5 (sI σ 1 2))) C hR hS inX4 tyX4 tyX4_ok nmX4 61 (by decide) (cz3 rfl) rfl 5 (by decide) (pfI3_5 rfl) pI_o 8 rfl rfl rfl rfl (Nat.le_of_ble_eq_true rfl) dX4_tell_35 (fun H locs hR hS => ?_)
  refine lv_aload_n hx hb dX4_tell_38 rfl (lv_at hl 0 rfl) ?_
  refine lv_iconst (v := 0) hx hb dX4_tell_39 (by decide) ?_
  refine x_put (τ := (pI (pI (pI (pI (pI (pI (pI σ 61 0 x2) 61 1 x3) 61 2 x4) 61 3 x5) 61 4 (sI σ 1 1)) 61 5 (sI σ 1 2)) 61 6 0)) C hR hS inX4 tyX4 tyX4_ok nmX4 61 (by decide) (cz3 rfl) rfl 6 (by decide) (pfI3_6 rfl) pI_o 9 rfl rfl rfl rfl (Nat.le_of_ble_eq_true rfl) dX4_tell_40 (fun H locs hR hS => ?_)
  obtain rfl := Option.some.inj hf
  exact x_vret C hR hS dX4_tell_43 rfl
theorem hdV_X4_isRight : yX4_isRight.cls = RX4 ∧ yX4_isRight.cls ≠ "java/lang/invoke/MethodHandle" ∧ yX4_isRight.cls ≠ "java/lang/invoke/VarHandle" ∧ (parseMethodDescriptor yX4_isRight.desc).map (fun d => d.parameters.length) = some 1 := by decide +kernel
def f_X4_isRight (x1 : Int32) (σ : St) : Option (Int32 × St) :=
  (if (((sI σ 61 5) >>> (x1 &&& 31)) &&& 1) = (sI σ 61 0) then some (1, σ) else some (0, σ))
set_option maxHeartbeats 4000000 in
set_option maxRecDepth 100000 in
theorem c_X4_isRight (l : Launch) (G : GG) (x1 : Int32) (σ : St) (res : Int32 × St) (hf : f_X4_isRight x1 σ = some res) : CI l yX4_isRight wsX4_isRight 0 [.ref (G.2.1 61), .int x1] G σ (fun r u => r = res.1 ∧ u = res.2) := by
  refine x_ent (ret := (some .boolean)) cX4_isRight 2 (by decide) rfl (Nat.le_of_ble_eq_true rfl) ?_
  intro p e s m below meth c ls C hR hS hl
  have C : Cx p s m [.ref (G.2.1 61), .int x1].toArray meth c cX4_isRight RX4 wsX4_isRight (some .boolean) 2 G := C
  have hx := C.1
  have hb := C.2.1
  have hl : lv_has ls 2 [(0, .ref (G.2.1 61)), (1, .int x1)] := hl
  have inX4 : ∀ w ∈ u_ws RX4 TX4 14, w ∈ wsX4_isRight := fun w h => List.mem_cons_of_mem _ (List.mem_append_right _ h)
  unfold f_X4_isRight at hf
  refine lv_aload_n hx hb dX4_isRight_0 rfl (lv_at hl 0 rfl) ?_
  refine x_get C hR inX4 61 (by decide) (cz3 rfl) rfl 5 (by decide) 1 rfl (.int (sI σ 61 5)) rfl dX4_isRight_1 ?_
  refine lv_iload_n hx hb dX4_isRight_4 rfl (lv_at hl 1 rfl) ?_
  refine lv_ishr hx hb dX4_isRight_5 ?_
  refine lv_iconst (v := 1) hx hb dX4_isRight_6 (by decide) ?_
  refine lv_iand hx hb dX4_isRight_7 ?_
  refine lv_aload_n hx hb dX4_isRight_8 rfl (lv_at hl 0 rfl) ?_
  refine x_get C hR inX4 61 (by decide) (cz3 rfl) rfl 0 (by decide) 2 rfl (.int (sI σ 61 0)) rfl dX4_isRight_9 ?_
  refine lv_icmp_ne (tgt := 19) hx hb dX4_isRight_12 (by decide) (fun c_12 => ?_) (fun c_12 => ?_)
  · replace hf := (if_neg c_12).symm.trans hf
    refine lv_iconst (v := 0) hx hb dX4_isRight_19 (by decide) ?_
    obtain rfl := Option.some.inj hf
    exact x_zret C hR hS dX4_isRight_20 (by first | rfl | decide | (simp only []; split <;> rfl)) ⟨rfl, rfl⟩
  · replace hf := (if_pos c_12).symm.trans hf
    refine lv_iconst (v := 1) hx hb dX4_isRight_15 (by decide) ?_
    refine lv_goto (tgt := 20) hx hb dX4_isRight_16 (by decide) ?_
    obtain rfl := Option.some.inj hf
    exact x_zret C hR hS dX4_isRight_20 (by first | rfl | decide | (simp only []; split <;> rfl)) ⟨rfl, rfl⟩
theorem hdV_X4_aheadComes : yX4_aheadComes.cls = RX4 ∧ yX4_aheadComes.cls ≠ "java/lang/invoke/MethodHandle" ∧ yX4_aheadComes.cls ≠ "java/lang/invoke/VarHandle" ∧ (parseMethodDescriptor yX4_aheadComes.desc).map (fun d => d.parameters.length) = some 2 := by decide +kernel
def f_X4_aheadComes_43 (x2 : Int32) (x3 : Int32) (σ : St) : Option (Int32 × St) :=
  (if (sI σ 61 1) = 2 then bd (f_X5_halfCutUp x2 σ) (fun r53 σ53 => some (x3 + r53, σ53)) else some (x3 + x2, σ))
def f_X4_aheadComes (x1 : Int32) (x2 : Int32) (σ : St) : Option (Int32 × St) :=
  (if x1 = 0 then some (0, σ) else bd (f_X2_get 69 (x1 - 1) σ) (fun r13 σ13 => (if x1 < (sI σ13 61 2) then f_X4_aheadComes_43 x2 r13 σ13 else bd (f_X2_get 63 (x1 - (sI σ13 61 2)) σ13) (fun r36 σ36 => f_X4_aheadComes_43 x2 (if r13 < r36 then r36 else r13) σ36))))
set_option maxHeartbeats 4000000 in
set_option maxRecDepth 100000 in
theorem w_X4_aheadComes_43 {p : Program} {l : Launch} {e : Env} {s : State} {m : MethodId} {args : Array Value} {below : List Frame} {meth : Method} {c : Code} {G : GG} (C : Cx p s m args meth c cX4_aheadComes RX4 wsX4_aheadComes (some .int) 4 G) {res : Int32 × St} : ∀ (x2 : Int32) (x3 : Int32) (σ : St), f_X4_aheadComes_43 x2 x3 σ = some res → WC p l e 1 s m args below meth c G (QI G res) 4 43 [(0, .ref (G.2.1 61)), (2, .int x2), (3, .int x3)] [] σ := by
  have hx := C.1
  have hb := C.2.1
  have inX4 : ∀ w ∈ u_ws RX4 TX4 14, w ∈ wsX4_aheadComes := fun w h => List.mem_cons_of_mem _ (List.mem_append_left _ (List.mem_append_right _ h))
  intro x2 x3 σ hf _ _ _ hR hS hl
  unfold f_X4_aheadComes_43 at hf
  refine lv_iload_n hx hb dX4_aheadComes_43 rfl (lv_at hl 2 rfl) ?_
  refine lv_aload_n hx hb dX4_aheadComes_44 rfl (lv_at hl 0 rfl) ?_
  refine x_get C hR inX4 61 (by decide) (cz3 rfl) rfl 1 (by decide) 8 rfl (.int (sI σ 61 1)) rfl dX4_aheadComes_45 ?_
  refine lv_iconst (v := 2) hx hb dX4_aheadComes_48 (by decide) ?_
  refine lv_icmp_ne (tgt := 59) hx hb dX4_aheadComes_49 (by decide) (fun c_49 => ?_) (fun c_49 => ?_)
  · replace hf := (if_neg c_49).symm.trans hf
    refine lv_iload_n hx hb dX4_aheadComes_59 rfl (lv_at hl 1 rfl) ?_
    refine lv_iadd hx hb dX4_aheadComes_60 ?_
    obtain rfl := Option.some.inj hf
    exact x_iret C hR hS dX4_aheadComes_61 ⟨rfl, rfl⟩
  · replace hf := (if_pos c_49).symm.trans hf
    refine lv_iload_n hx hb dX4_aheadComes_52 rfl (lv_at hl 1 rfl) ?_
    obtain ⟨r53_, σ53_, hc_53, hf⟩ := bd_some hf
    refine x_nsI C hl.1 hR hS (c_X5_halfCutUp l G x2 σ _ hc_53) gX4_aheadComes_X5_halfCutUp_n120 C.2.2.2.2.2.2.2.2.1.2.2.2.1 16 15 rfl rfl rfl hdS_X5_halfCutUp ⟨Nat.le_of_ble_eq_true rfl, Nat.le_of_ble_eq_true rfl⟩ rfl (As := [.int x2]) (rest := [.int x3]) rfl (Nat.le_of_ble_eq_true rfl) ⟨Nat.le_of_ble_eq_true rfl, Nat.le_of_ble_eq_true rfl⟩ dX4_aheadComes_53 (fun r53 σ53 H locs hq_53 hR hS => ?_)
    obtain ⟨rfl, rfl⟩ := hq_53
    refine lv_goto (tgt := 60) hx hb dX4_aheadComes_56 (by decide) ?_
    refine lv_iadd hx hb dX4_aheadComes_60 ?_
    obtain rfl := Option.some.inj hf
    exact x_iret C hR hS dX4_aheadComes_61 ⟨rfl, rfl⟩
set_option maxHeartbeats 4000000 in
set_option maxRecDepth 100000 in
theorem c_X4_aheadComes (l : Launch) (G : GG) (x1 : Int32) (x2 : Int32) (σ : St) (res : Int32 × St) (hf : f_X4_aheadComes x1 x2 σ = some res) : CI l yX4_aheadComes wsX4_aheadComes 1 [.ref (G.2.1 61), .int x1, .int x2] G σ (fun r u => r = res.1 ∧ u = res.2) := by
  refine x_ent (ret := (some .int)) cX4_aheadComes 4 (by decide) rfl (Nat.le_of_ble_eq_true rfl) ?_
  intro p e s m below meth c ls C hR hS hl
  have C : Cx p s m [.ref (G.2.1 61), .int x1, .int x2].toArray meth c cX4_aheadComes RX4 wsX4_aheadComes (some .int) 4 G := C
  have hx := C.1
  have hb := C.2.1
  have hl : lv_has ls 4 [(0, .ref (G.2.1 61)), (1, .int x1), (2, .int x2)] := hl
  have inX4 : ∀ w ∈ u_ws RX4 TX4 14, w ∈ wsX4_aheadComes := fun w h => List.mem_cons_of_mem _ (List.mem_append_left _ (List.mem_append_right _ h))
  unfold f_X4_aheadComes at hf
  refine lv_iload_n hx hb dX4_aheadComes_0 rfl (lv_at hl 1 rfl) ?_
  refine lv_if_ne (tgt := 6) hx hb dX4_aheadComes_1 (by decide) (fun c_1 => ?_) (fun c_1 => ?_)
  · replace hf := (if_neg c_1).symm.trans hf
    refine lv_aload_n hx hb dX4_aheadComes_6 rfl (lv_at hl 0 rfl) ?_
    refine x_get C hR inX4 61 (by decide) (cz3 rfl) rfl 12 (by decide) 1 rfl (.ref (G.2.1 68)) rfl dX4_aheadComes_7 ?_
    refine lv_iload_n hx hb dX4_aheadComes_10 rfl (lv_at hl 1 rfl) ?_
    refine lv_iconst (v := 1) hx hb dX4_aheadComes_11 (by decide) ?_
    refine lv_isub hx hb dX4_aheadComes_12 ?_
    obtain ⟨r13_, σ13_, hc_13, hf⟩ := bd_some hf
    refine x_cvI C hl.1 hR hS (c_X2_get l G 69 68 rfl rfl rfl (x1 - 1) σ _ hc_13) gX4_aheadComes_X2_get rfl hdV_X2_get ⟨Nat.le_of_ble_eq_true rfl, Nat.le_of_ble_eq_true rfl⟩ (by decide) (cz1 rfl) rfl rfl (As := [.int (x1 - 1)]) (rest := []) rfl (Nat.le_of_ble_eq_true rfl) ⟨Nat.le_of_ble_eq_true rfl, Nat.le_of_ble_eq_true rfl⟩ dX4_aheadComes_13 (fun r13 σ13 H locs hq_13 hR hS => ?_)
    obtain ⟨rfl, rfl⟩ := hq_13
    refine lv_istore_n (lv' := [(3, .int r13), (0, .ref (G.2.1 61)), (1, .int x1), (2, .int x2)]) hx hb dX4_aheadComes_16 rfl hl (by decide) rfl (fun ls hl => ?_)
    refine lv_iload_n hx hb dX4_aheadComes_17 rfl (lv_at hl 2 rfl) ?_
    refine lv_aload_n hx hb dX4_aheadComes_18 rfl (lv_at hl 1 rfl) ?_
    refine x_get C hR inX4 61 (by decide) (cz3 rfl) rfl 2 (by decide) 2 rfl (.int (sI σ13 61 2)) rfl dX4_aheadComes_19 ?_
    refine lv_icmp_lt (tgt := 43) hx hb dX4_aheadComes_22 (by decide) (fun c_22 => ?_) (fun c_22 => ?_)
    · replace hf := (if_pos c_22).symm.trans hf
      exact w_X4_aheadComes_43 C  x2 r13 _ hf _ _ _ hR hS (lv_sub hl [1, 3, 0] rfl)
    · replace hf := (if_neg c_22).symm.trans hf
      refine lv_iload_n hx hb dX4_aheadComes_25 rfl (lv_at hl 0 rfl) ?_
      refine lv_aload_n hx hb dX4_aheadComes_26 rfl (lv_at hl 1 rfl) ?_
      refine x_get C hR inX4 61 (by decide) (cz3 rfl) rfl 9 (by decide) 3 rfl (.ref (G.2.1 62)) rfl dX4_aheadComes_27 ?_
      refine lv_iload_n hx hb dX4_aheadComes_30 rfl (lv_at hl 2 rfl) ?_
      refine lv_aload_n hx hb dX4_aheadComes_31 rfl (lv_at hl 1 rfl) ?_
      refine x_get C hR inX4 61 (by decide) (cz3 rfl) rfl 2 (by decide) 2 rfl (.int (sI σ13 61 2)) rfl dX4_aheadComes_32 ?_
      refine lv_isub hx hb dX4_aheadComes_35 ?_
      obtain ⟨r36_, σ36_, hc_36, hf⟩ := bd_some hf
      refine x_cvI C hl.1 hR hS (c_X2_get l G 63 62 rfl rfl rfl (x1 - (sI σ13 61 2)) σ13 _ hc_36) gX4_aheadComes_X2_get rfl hdV_X2_get ⟨Nat.le_of_ble_eq_true rfl, Nat.le_of_ble_eq_true rfl⟩ (by decide) (cz1 rfl) rfl rfl (As := [.int (x1 - (sI σ13 61 2))]) (rest := [.int r13]) rfl (Nat.le_of_ble_eq_true rfl) ⟨Nat.le_of_ble_eq_true rfl, Nat.le_of_ble_eq_true rfl⟩ dX4_aheadComes_36 (fun r36 σ36 H locs hq_36 hR hS => ?_)
      obtain ⟨rfl, rfl⟩ := hq_36
      refine va_mmax hx hb (C.2.2.2.1.trans hl.1.symm) C.2.2.2.2.1 (C.2.2.2.2.2.1 _ (List.mem_of_getElem? (i := 4) rfl)) (C.2.2.2.2.2.1 _ (List.mem_of_getElem? (i := 5) rfl)) (C.2.2.2.2.2.1 _ (List.mem_of_getElem? (i := 6) rfl)) (C.2.2.2.2.2.1 _ (List.mem_of_getElem? (i := 7) rfl)) (Nat.le_of_ble_eq_true rfl) (Nat.le_of_ble_eq_true rfl) (Nat.le_of_ble_eq_true rfl) (Nat.le_of_ble_eq_true rfl) dX4_aheadComes_39 ?_
      refine lv_istore_n (lv' := [(3, .int (if r13 < r36 then r36 else r13)), (0, .ref (G.2.1 61)), (1, .int x1), (2, .int x2)]) hx hb dX4_aheadComes_42 rfl hl (by decide) rfl (fun ls hl => ?_)
      exact w_X4_aheadComes_43 C  x2 (if r13 < r36 then r36 else r13) _ hf _ _ _ hR hS (lv_sub hl [1, 3, 0] rfl)
  · replace hf := (if_pos c_1).symm.trans hf
    refine lv_iconst (v := 0) hx hb dX4_aheadComes_4 (by decide) ?_
    obtain rfl := Option.some.inj hf
    exact x_iret C hR hS dX4_aheadComes_5 ⟨rfl, rfl⟩
theorem hdV_X4_enterBehind : yX4_enterBehind.cls = RX4 ∧ yX4_enterBehind.cls ≠ "java/lang/invoke/MethodHandle" ∧ yX4_enterBehind.cls ≠ "java/lang/invoke/VarHandle" ∧ (parseMethodDescriptor yX4_enterBehind.desc).map (fun d => d.parameters.length) = some 3 := by decide +kernel
def f_X4_enterBehind_45 (x1 : Int32) (x2 : Int32) (x4 : Int32) (t0 : Int32) (σ : St) : Option (St) :=
  (if t0 = 0 then bd (f_X2_get 69 x1 σ) (fun r88 σ88 => bv (f_X2_put 65 x1 (if x4 < r88 then r88 else x4) σ88) (fun σ94 => some σ94)) else bv (f_X2_put 71 x1 2 σ) (fun σ58 => bv (f_X2_put 65 x1 (x4 + x2) σ58) (fun σ70 => some σ70)))
def f_X4_enterBehind_44 (x1 : Int32) (x2 : Int32) (x4 : Int32) (σ : St) : Option (St) :=
  f_X4_enterBehind_45 x1 x2 x4 0 σ
def f_X4_enterBehind (x1 : Int32) (x2 : Int32) (x3 : Int32) (σ : St) : Option (St) :=
  bd (f_X2_get 63 x1 σ) (fun r5 σ5 => bd (f_X2_get 71 x1 σ5) (fun r15 σ15 => (if r15 ≤ 0 then f_X4_enterBehind_44 x1 x2 r5 σ15 else (if x3 ≤ 0 then f_X4_enterBehind_44 x1 x2 r5 σ15 else bd (f_X2_get 69 x1 σ15) (fun r32 σ32 => (if (r5 - r32) ≤ x3 then f_X4_enterBehind_44 x1 x2 r5 σ32 else f_X4_enterBehind_45 x1 x2 r5 1 σ32))))))
set_option maxHeartbeats 4000000 in
set_option maxRecDepth 100000 in
theorem w_X4_enterBehind_45 {p : Program} {l : Launch} {e : Env} {s : State} {m : MethodId} {args : Array Value} {below : List Frame} {meth : Method} {c : Code} {G : GG} (C : Cx p s m args meth c cX4_enterBehind RX4 wsX4_enterBehind none 6 G) {res : St} : ∀ (x1 : Int32) (x2 : Int32) (x4 : Int32) (t0 : Int32) (σ : St), f_X4_enterBehind_45 x1 x2 x4 t0 σ = some res → WC p l e 1 s m args below meth c G (QV G res) 6 45 [(0, .ref (G.2.1 61)), (1, .int x1), (2, .int x2), (4, .int x4)] [.int t0] σ := by
  have hx := C.1
  have hb := C.2.1
  have inX4 : ∀ w ∈ u_ws RX4 TX4 14, w ∈ wsX4_enterBehind := fun w h => List.mem_cons_of_mem _ (List.mem_append_left _ (List.mem_append_right _ h))
  intro x1 x2 x4 t0 σ hf _ _ _ hR hS hl
  unfold f_X4_enterBehind_45 at hf
  refine lv_istore (lv' := [(5, .int t0), (0, .ref (G.2.1 61)), (1, .int x1), (2, .int x2), (4, .int x4)]) hx hb dX4_enterBehind_45 hl (by decide) rfl (fun ls hl => ?_)
  refine lv_iload hx hb dX4_enterBehind_47 (lv_at hl 0 rfl) ?_
  refine lv_if_eq (tgt := 76) hx hb dX4_enterBehind_49 (by decide) (fun c_49 => ?_) (fun c_49 => ?_)
  · replace hf := (if_pos c_49).symm.trans hf
    refine lv_aload_n hx hb dX4_enterBehind_76 rfl (lv_at hl 1 rfl) ?_
    refine x_get C hR inX4 61 (by decide) (cz3 rfl) rfl 10 (by decide) 4 rfl (.ref (G.2.1 64)) rfl dX4_enterBehind_77 ?_
    refine lv_iload_n hx hb dX4_enterBehind_80 rfl (lv_at hl 2 rfl) ?_
    refine lv_iload hx hb dX4_enterBehind_81 (lv_at hl 4 rfl) ?_
    refine lv_aload_n hx hb dX4_enterBehind_83 rfl (lv_at hl 1 rfl) ?_
    refine x_get C hR inX4 61 (by decide) (cz3 rfl) rfl 12 (by decide) 3 rfl (.ref (G.2.1 68)) rfl dX4_enterBehind_84 ?_
    refine lv_iload_n hx hb dX4_enterBehind_87 rfl (lv_at hl 2 rfl) ?_
    obtain ⟨r88_, σ88_, hc_88, hf⟩ := bd_some hf
    refine x_cvI C hl.1 hR hS (c_X2_get l G 69 68 rfl rfl rfl x1 σ _ hc_88) gX4_enterBehind_X2_get rfl hdV_X2_get ⟨Nat.le_of_ble_eq_true rfl, Nat.le_of_ble_eq_true rfl⟩ (by decide) (cz1 rfl) rfl rfl (As := [.int x1]) (rest := [.int x4, .int x1, .ref (G.2.1 64)]) rfl (Nat.le_of_ble_eq_true rfl) ⟨Nat.le_of_ble_eq_true rfl, Nat.le_of_ble_eq_true rfl⟩ dX4_enterBehind_88 (fun r88 σ88 H locs hq_88 hR hS => ?_)
    obtain ⟨rfl, rfl⟩ := hq_88
    refine va_mmax hx hb (C.2.2.2.1.trans hl.1.symm) C.2.2.2.2.1 (C.2.2.2.2.2.1 _ (List.mem_of_getElem? (i := 5) rfl)) (C.2.2.2.2.2.1 _ (List.mem_of_getElem? (i := 6) rfl)) (C.2.2.2.2.2.1 _ (List.mem_of_getElem? (i := 7) rfl)) (C.2.2.2.2.2.1 _ (List.mem_of_getElem? (i := 8) rfl)) (Nat.le_of_ble_eq_true rfl) (Nat.le_of_ble_eq_true rfl) (Nat.le_of_ble_eq_true rfl) (Nat.le_of_ble_eq_true rfl) dX4_enterBehind_91 ?_
    obtain ⟨σ94_, hc_94, hf⟩ := bv_some hf
    refine x_cvV C hl.1 hR hS (c_X2_put l G 65 64 rfl rfl rfl x1 (if x4 < r88 then r88 else x4) σ88 _ hc_94) gX4_enterBehind_X2_put rfl hdV_X2_put ⟨Nat.le_of_ble_eq_true rfl, Nat.le_of_ble_eq_true rfl⟩ (by decide) (cz1 rfl) rfl rfl (As := [.int x1, .int (if x4 < r88 then r88 else x4)]) (rest := []) rfl (Nat.le_of_ble_eq_true rfl) ⟨Nat.le_of_ble_eq_true rfl, Nat.le_of_ble_eq_true rfl⟩ dX4_enterBehind_94 (fun σ94 H locs hq_94 hR hS => ?_)
    subst hq_94
    obtain rfl := Option.some.inj hf
    exact x_vret C hR hS dX4_enterBehind_97 rfl
  · replace hf := (if_neg c_49).symm.trans hf
    refine lv_aload_n hx hb dX4_enterBehind_52 rfl (lv_at hl 1 rfl) ?_
    refine x_get C hR inX4 61 (by decide) (cz3 rfl) rfl 13 (by decide) 2 rfl (.ref (G.2.1 70)) rfl dX4_enterBehind_53 ?_
    refine lv_iload_n hx hb dX4_enterBehind_56 rfl (lv_at hl 2 rfl) ?_
    refine lv_iconst (v := 2) hx hb dX4_enterBehind_57 (by decide) ?_
    obtain ⟨σ58_, hc_58, hf⟩ := bv_some hf
    refine x_cvV C hl.1 hR hS (c_X2_put l G 71 70 rfl rfl rfl x1 2 σ _ hc_58) gX4_enterBehind_X2_put rfl hdV_X2_put ⟨Nat.le_of_ble_eq_true rfl, Nat.le_of_ble_eq_true rfl⟩ (by decide) (cz1 rfl) rfl rfl (As := [.int x1, .int 2]) (rest := []) rfl (Nat.le_of_ble_eq_true rfl) ⟨Nat.le_of_ble_eq_true rfl, Nat.le_of_ble_eq_true rfl⟩ dX4_enterBehind_58 (fun σ58 H locs hq_58 hR hS => ?_)
    subst hq_58
    refine lv_aload_n hx hb dX4_enterBehind_61 rfl (lv_at hl 1 rfl) ?_
    refine x_get C hR inX4 61 (by decide) (cz3 rfl) rfl 10 (by decide) 4 rfl (.ref (G.2.1 64)) rfl dX4_enterBehind_62 ?_
    refine lv_iload_n hx hb dX4_enterBehind_65 rfl (lv_at hl 2 rfl) ?_
    refine lv_iload hx hb dX4_enterBehind_66 (lv_at hl 4 rfl) ?_
    refine lv_iload_n hx hb dX4_enterBehind_68 rfl (lv_at hl 3 rfl) ?_
    refine lv_iadd hx hb dX4_enterBehind_69 ?_
    obtain ⟨σ70_, hc_70, hf⟩ := bv_some hf
    refine x_cvV C hl.1 hR hS (c_X2_put l G 65 64 rfl rfl rfl x1 (x4 + x2) σ58 _ hc_70) gX4_enterBehind_X2_put rfl hdV_X2_put ⟨Nat.le_of_ble_eq_true rfl, Nat.le_of_ble_eq_true rfl⟩ (by decide) (cz1 rfl) rfl rfl (As := [.int x1, .int (x4 + x2)]) (rest := []) rfl (Nat.le_of_ble_eq_true rfl) ⟨Nat.le_of_ble_eq_true rfl, Nat.le_of_ble_eq_true rfl⟩ dX4_enterBehind_70 (fun σ70 H locs hq_70 hR hS => ?_)
    subst hq_70
    refine lv_goto (tgt := 97) hx hb dX4_enterBehind_73 (by decide) ?_
    obtain rfl := Option.some.inj hf
    exact x_vret C hR hS dX4_enterBehind_97 rfl
set_option maxHeartbeats 4000000 in
set_option maxRecDepth 100000 in
theorem w_X4_enterBehind_44 {p : Program} {l : Launch} {e : Env} {s : State} {m : MethodId} {args : Array Value} {below : List Frame} {meth : Method} {c : Code} {G : GG} (C : Cx p s m args meth c cX4_enterBehind RX4 wsX4_enterBehind none 6 G) {res : St} : ∀ (x1 : Int32) (x2 : Int32) (x4 : Int32) (σ : St), f_X4_enterBehind_44 x1 x2 x4 σ = some res → WC p l e 1 s m args below meth c G (QV G res) 6 44 [(0, .ref (G.2.1 61)), (1, .int x1), (2, .int x2), (4, .int x4)] [] σ := by
  have hx := C.1
  have hb := C.2.1
  have inX4 : ∀ w ∈ u_ws RX4 TX4 14, w ∈ wsX4_enterBehind := fun w h => List.mem_cons_of_mem _ (List.mem_append_left _ (List.mem_append_right _ h))
  intro x1 x2 x4 σ hf _ _ _ hR hS hl
  unfold f_X4_enterBehind_44 at hf
  refine lv_iconst (v := 0) hx hb dX4_enterBehind_44 (by decide) ?_
  exact w_X4_enterBehind_45 C  x1 x2 x4 0 _ hf _ _ _ hR hS (lv_sub hl [0, 1, 2, 3] rfl)
set_option maxHeartbeats 4000000 in
set_option maxRecDepth 100000 in
theorem c_X4_enterBehind (l : Launch) (G : GG) (x1 : Int32) (x2 : Int32) (x3 : Int32) (σ : St) (res : St) (hf : f_X4_enterBehind x1 x2 x3 σ = some res) : CV l yX4_enterBehind wsX4_enterBehind 1 [.ref (G.2.1 61), .int x1, .int x2, .int x3] G σ (fun u => u = res) := by
  refine x_ent (ret := none) cX4_enterBehind 6 (by decide) rfl (Nat.le_of_ble_eq_true rfl) ?_
  intro p e s m below meth c ls C hR hS hl
  have C : Cx p s m [.ref (G.2.1 61), .int x1, .int x2, .int x3].toArray meth c cX4_enterBehind RX4 wsX4_enterBehind none 6 G := C
  have hx := C.1
  have hb := C.2.1
  have hl : lv_has ls 6 [(0, .ref (G.2.1 61)), (1, .int x1), (2, .int x2), (3, .int x3)] := hl
  have inX4 : ∀ w ∈ u_ws RX4 TX4 14, w ∈ wsX4_enterBehind := fun w h => List.mem_cons_of_mem _ (List.mem_append_left _ (List.mem_append_right _ h))
  unfold f_X4_enterBehind at hf
  refine lv_aload_n hx hb dX4_enterBehind_0 rfl (lv_at hl 0 rfl) ?_
  refine x_get C hR inX4 61 (by decide) (cz3 rfl) rfl 9 (by decide) 1 rfl (.ref (G.2.1 62)) rfl dX4_enterBehind_1 ?_
  refine lv_iload_n hx hb dX4_enterBehind_4 rfl (lv_at hl 1 rfl) ?_
  obtain ⟨r5_, σ5_, hc_5, hf⟩ := bd_some hf
  refine x_cvI C hl.1 hR hS (c_X2_get l G 63 62 rfl rfl rfl x1 σ _ hc_5) gX4_enterBehind_X2_get rfl hdV_X2_get ⟨Nat.le_of_ble_eq_true rfl, Nat.le_of_ble_eq_true rfl⟩ (by decide) (cz1 rfl) rfl rfl (As := [.int x1]) (rest := []) rfl (Nat.le_of_ble_eq_true rfl) ⟨Nat.le_of_ble_eq_true rfl, Nat.le_of_ble_eq_true rfl⟩ dX4_enterBehind_5 (fun r5 σ5 H locs hq_5 hR hS => ?_)
  obtain ⟨rfl, rfl⟩ := hq_5
  refine lv_istore (lv' := [(4, .int r5), (0, .ref (G.2.1 61)), (1, .int x1), (2, .int x2), (3, .int x3)]) hx hb dX4_enterBehind_8 hl (by decide) rfl (fun ls hl => ?_)
  refine lv_aload_n hx hb dX4_enterBehind_10 rfl (lv_at hl 1 rfl) ?_
  refine x_get C hR inX4 61 (by decide) (cz3 rfl) rfl 13 (by decide) 2 rfl (.ref (G.2.1 70)) rfl dX4_enterBehind_11 ?_
  refine lv_iload_n hx hb dX4_enterBehind_14 rfl (lv_at hl 2 rfl) ?_
  obtain ⟨r15_, σ15_, hc_15, hf⟩ := bd_some hf
  refine x_cvI C hl.1 hR hS (c_X2_get l G 71 70 rfl rfl rfl x1 σ5 _ hc_15) gX4_enterBehind_X2_get rfl hdV_X2_get ⟨Nat.le_of_ble_eq_true rfl, Nat.le_of_ble_eq_true rfl⟩ (by decide) (cz1 rfl) rfl rfl (As := [.int x1]) (rest := []) rfl (Nat.le_of_ble_eq_true rfl) ⟨Nat.le_of_ble_eq_true rfl, Nat.le_of_ble_eq_true rfl⟩ dX4_enterBehind_15 (fun r15 σ15 H locs hq_15 hR hS => ?_)
  obtain ⟨rfl, rfl⟩ := hq_15
  refine lv_if_le (tgt := 44) hx hb dX4_enterBehind_18 (by decide) (fun c_18 => ?_) (fun c_18 => ?_)
  · replace hf := (if_pos c_18).symm.trans hf
    exact w_X4_enterBehind_44 C  x1 x2 r5 _ hf _ _ _ hR hS (lv_sub hl [1, 2, 3, 0] rfl)
  · replace hf := (if_neg c_18).symm.trans hf
    refine lv_iload_n hx hb dX4_enterBehind_21 rfl (lv_at hl 4 rfl) ?_
    refine lv_if_le (tgt := 44) hx hb dX4_enterBehind_22 (by decide) (fun c_22 => ?_) (fun c_22 => ?_)
    · replace hf := (if_pos c_22).symm.trans hf
      exact w_X4_enterBehind_44 C  x1 x2 r5 _ hf _ _ _ hR hS (lv_sub hl [1, 2, 3, 0] rfl)
    · replace hf := (if_neg c_22).symm.trans hf
      refine lv_iload hx hb dX4_enterBehind_25 (lv_at hl 0 rfl) ?_
      refine lv_aload_n hx hb dX4_enterBehind_27 rfl (lv_at hl 1 rfl) ?_
      refine x_get C hR inX4 61 (by decide) (cz3 rfl) rfl 12 (by decide) 3 rfl (.ref (G.2.1 68)) rfl dX4_enterBehind_28 ?_
      refine lv_iload_n hx hb dX4_enterBehind_31 rfl (lv_at hl 2 rfl) ?_
      obtain ⟨r32_, σ32_, hc_32, hf⟩ := bd_some hf
      refine x_cvI C hl.1 hR hS (c_X2_get l G 69 68 rfl rfl rfl x1 σ15 _ hc_32) gX4_enterBehind_X2_get rfl hdV_X2_get ⟨Nat.le_of_ble_eq_true rfl, Nat.le_of_ble_eq_true rfl⟩ (by decide) (cz1 rfl) rfl rfl (As := [.int x1]) (rest := [.int r5]) rfl (Nat.le_of_ble_eq_true rfl) ⟨Nat.le_of_ble_eq_true rfl, Nat.le_of_ble_eq_true rfl⟩ dX4_enterBehind_32 (fun r32 σ32 H locs hq_32 hR hS => ?_)
      obtain ⟨rfl, rfl⟩ := hq_32
      refine lv_isub hx hb dX4_enterBehind_35 ?_
      refine lv_iload_n hx hb dX4_enterBehind_36 rfl (lv_at hl 4 rfl) ?_
      refine lv_icmp_le (tgt := 44) hx hb dX4_enterBehind_37 (by decide) (fun c_37 => ?_) (fun c_37 => ?_)
      · replace hf := (if_pos c_37).symm.trans hf
        exact w_X4_enterBehind_44 C  x1 x2 r5 _ hf _ _ _ hR hS (lv_sub hl [1, 2, 3, 0] rfl)
      · replace hf := (if_neg c_37).symm.trans hf
        refine lv_iconst (v := 1) hx hb dX4_enterBehind_40 (by decide) ?_
        refine lv_goto (tgt := 45) hx hb dX4_enterBehind_41 (by decide) ?_
        exact w_X4_enterBehind_45 C  x1 x2 r5 1 _ hf _ _ _ hR hS (lv_sub hl [1, 2, 3, 0] rfl)
theorem hdV_X4_go : yX4_go.cls = RX4 ∧ yX4_go.cls ≠ "java/lang/invoke/MethodHandle" ∧ yX4_go.cls ≠ "java/lang/invoke/VarHandle" ∧ (parseMethodDescriptor yX4_go.desc).map (fun d => d.parameters.length) = some 1 := by decide +kernel
def f_X4_go_212 (rc12 : Int32 → St → Option (Int32 × St)) (x2 : Int32) (x4 : Int32) (σ : St) : Option (Int32 × St) :=
  bd (f_X2_get 65 x2 σ) (fun r222 σ222 => bd (f_X1_passedMinutes x4 (sI σ222 61 4) σ222) (fun r231 σ231 => bv (f_X2_put 67 x2 (((r222 + r231) + (sI σ231 61 6)) + (2 * (sI σ231 61 3))) σ231) (fun σ247 => bd (f_X2_get 67 x2 σ247) (fun r256 σ256 => bd (f_X2_get 71 x2 (pI σ256 61 7 r256)) (fun r273 σ273 => rc12 (x2 + 1) (pI σ273 61 8 ((sI σ256 61 8) + (1 + r273))))))))
def f_X4_go_196 (rc12 : Int32 → St → Option (Int32 × St)) (x2 : Int32) (x4 : Int32) (x7 : Int32) (t0 : Int32) (t1 : Int32) (t2 : Int32) (σ : St) : Option (Int32 × St) :=
  bv (f_X2_put 69 t2 (t1 + t0) σ) (fun σ197 => bd (f_X1_staysMinutes x4 σ197) (fun r206 σ206 => bv (f_X4_enterBehind x2 x7 r206 σ206) (fun σ209 => f_X4_go_212 rc12 x2 x4 σ209)))
def f_X4_go_166 (rc12 : Int32 → St → Option (Int32 × St)) (x2 : Int32) (x4 : Int32) (t0 : Int32) (t1 : Int32) (t2 : Int32) (σ : St) : Option (Int32 × St) :=
  bv (f_X2_put 65 t2 (t1 + t0) σ) (fun σ167 => f_X4_go_212 rc12 x2 x4 σ167)
def f_X4_go_123 (rc12 : Int32 → St → Option (Int32 × St)) (x2 : Int32) (x4 : Int32) (x5 : Int32) (x6 : Int32) (x7 : Int32) (t0 : Int32) (t1 : Int32) (σ : St) : Option (Int32 × St) :=
  bv (f_X2_put 63 t1 t0 σ) (fun σ123 => (if (sI σ123 61 1) = 0 then bv (f_X2_put 69 x2 (-1) σ123) (fun σ139 => bd (f_X2_get 63 x2 σ139) (fun r152 σ152 => (if x6 = 0 then f_X4_go_166 rc12 x2 x4 x7 r152 x2 σ152 else f_X4_go_166 rc12 x2 x4 0 r152 x2 σ152))) else bd (f_X4_aheadComes x2 x5 σ123) (fun r182 σ182 => (if x6 = 0 then f_X4_go_196 rc12 x2 x4 x7 x7 r182 x2 σ182 else f_X4_go_196 rc12 x2 x4 x7 0 r182 x2 σ182))))
def f_X4_go_94 (rc12 : Int32 → St → Option (Int32 × St)) (x2 : Int32) (x4 : Int32) (x5 : Int32) (x6 : Int32) (x7 : Int32) (t0 : Int32) (t1 : Int32) (σ : St) : Option (Int32 × St) :=
  bv (f_X2_put 71 t1 t0 σ) (fun σ94 => (if x2 = 0 then f_X4_go_123 rc12 x2 x4 x5 x6 x7 0 x2 σ94 else bd (f_X2_get 67 (x2 - 1) σ94) (fun r117 σ117 => f_X4_go_123 rc12 x2 x4 x5 x6 x7 (r117 + x5) x2 σ117)))
def f_X4_go_59 (rc12 : Int32 → St → Option (Int32 × St)) (x2 : Int32) (x3 : Int32) (x4 : Int32) (t0 : Int32) (σ : St) : Option (Int32 × St) :=
  bd (f_X4_isRight x3 σ) (fun r63 σ63 => bd (f_X1_readyMinutes x4 (sI σ63 61 4) σ63) (fun r74 σ74 => (if r63 = 0 then f_X4_go_94 rc12 x2 x4 t0 r63 r74 1 x2 σ74 else f_X4_go_94 rc12 x2 x4 t0 r63 r74 0 x2 σ74)))
def f_X4_go_12 : Nat → Int32 → St → Option (Int32 × St)
  | 0, _, _ => none
  | n + 1, x2, σ => (if (sI σ 1 0) ≤ x2 then some (sI σ 61 7, σ) else bd (f_X0_lockAt_1 (sI σ 61 0) x2 σ) (fun r26 σ26 => bd (f_X2_get 3 r26 σ26) (fun r35 σ35 => (if x2 = 0 then f_X4_go_59 (f_X4_go_12 n) x2 r26 r35 0 σ35 else bd (f_X0_roadBehind_1 (sI σ35 61 0) (x2 - 1) σ35) (fun r56 σ56 => f_X4_go_59 (f_X4_go_12 n) x2 r26 r35 r56 σ56)))))
def f_X4_go (σ : St) : Option (Int32 × St) :=
  f_X4_go_12 FU 0 (pI (pI σ 61 7 0) 61 8 0)
set_option maxHeartbeats 4000000 in
set_option maxRecDepth 100000 in
theorem w_X4_go_212 {p : Program} {l : Launch} {e : Env} {s : State} {m : MethodId} {args : Array Value} {below : List Frame} {meth : Method} {c : Code} {G : GG} (C : Cx p s m args meth c cX4_go RX4 wsX4_go (some .int) 8 G) {res : Int32 × St} {rc12 : Int32 → St → Option (Int32 × St)} (hrc12 : ∀ (x2 : Int32) (σ : St), rc12 x2 σ = some res → WC p l e 2 s m args below meth c G (QI G res) 8 12 [(0, .ref (G.2.1 61)), (1, .ref (G.2.1 1)), (2, .int x2)] [] σ) : ∀ (x2 : Int32) (x4 : Int32) (σ : St), f_X4_go_212 rc12 x2 x4 σ = some res → WC p l e 2 s m args below meth c G (QI G res) 8 212 [(0, .ref (G.2.1 61)), (1, .ref (G.2.1 1)), (2, .int x2), (4, .int x4)] [] σ := by
  have hx := C.1
  have hb := C.2.1
  have inX4 : ∀ w ∈ u_ws RX4 TX4 14, w ∈ wsX4_go := fun w h => List.mem_cons_of_mem _ (List.mem_append_left _ (List.mem_append_left _ (List.mem_append_right _ h)))
  have inX0 : ∀ w ∈ u_ws RX0 TX0 14, w ∈ wsX4_go := fun w h => List.mem_cons_of_mem _ (List.mem_append_left _ (List.mem_append_right _ h))
  intro x2 x4 σ hf _ _ _ hR hS hl
  unfold f_X4_go_212 at hf
  refine lv_aload_n hx hb dX4_go_212 rfl (lv_at hl 0 rfl) ?_
  refine x_get C hR inX4 61 (by decide) (cz3 rfl) rfl 11 (by decide) 9 rfl (.ref (G.2.1 66)) rfl dX4_go_213 ?_
  refine lv_iload_n hx hb dX4_go_216 rfl (lv_at hl 2 rfl) ?_
  refine lv_aload_n hx hb dX4_go_217 rfl (lv_at hl 0 rfl) ?_
  refine x_get C hR inX4 61 (by decide) (cz3 rfl) rfl 10 (by decide) 12 rfl (.ref (G.2.1 64)) rfl dX4_go_218 ?_
  refine lv_iload_n hx hb dX4_go_221 rfl (lv_at hl 2 rfl) ?_
  obtain ⟨r222_, σ222_, hc_222, hf⟩ := bd_some hf
  refine x_cvI C hl.1 hR hS (c_X2_get l G 65 64 rfl rfl rfl x2 σ _ hc_222) gX4_go_X2_get rfl hdV_X2_get ⟨Nat.le_of_ble_eq_true rfl, Nat.le_of_ble_eq_true rfl⟩ (by decide) (cz1 rfl) rfl rfl (As := [.int x2]) (rest := [.int x2, .ref (G.2.1 66)]) rfl (Nat.le_of_ble_eq_true rfl) ⟨Nat.le_of_ble_eq_true rfl, Nat.le_of_ble_eq_true rfl⟩ dX4_go_222 (fun r222 σ222 H locs hq_222 hR hS => ?_)
  obtain ⟨rfl, rfl⟩ := hq_222
  refine lv_iload hx hb dX4_go_225 (lv_at hl 3 rfl) ?_
  refine lv_aload_n hx hb dX4_go_227 rfl (lv_at hl 0 rfl) ?_
  refine x_get C hR inX4 61 (by decide) (cz3 rfl) rfl 4 (by decide) 6 rfl (.int (sI σ222 61 4)) rfl dX4_go_228 ?_
  obtain ⟨r231_, σ231_, hc_231, hf⟩ := bd_some hf
  refine x_csI C hl.1 hR hS (c_X1_passedMinutes l G x4 (sI σ222 61 4) σ222 _ hc_231) gX4_go_X1_passedMinutes rfl hdS_X1_passedMinutes ⟨Nat.le_of_ble_eq_true rfl, Nat.le_of_ble_eq_true rfl⟩ rfl (As := [.int x4, .int (sI σ222 61 4)]) (rest := [.int r222, .int x2, .ref (G.2.1 66)]) rfl (Nat.le_of_ble_eq_true rfl) ⟨Nat.le_of_ble_eq_true rfl, Nat.le_of_ble_eq_true rfl⟩ dX4_go_231 (fun r231 σ231 H locs hq_231 hR hS => ?_)
  obtain ⟨rfl, rfl⟩ := hq_231
  refine lv_iadd hx hb dX4_go_234 ?_
  refine lv_aload_n hx hb dX4_go_235 rfl (lv_at hl 0 rfl) ?_
  refine x_get C hR inX4 61 (by decide) (cz3 rfl) rfl 6 (by decide) 13 rfl (.int (sI σ231 61 6)) rfl dX4_go_236 ?_
  refine lv_iadd hx hb dX4_go_239 ?_
  refine lv_iconst (v := 2) hx hb dX4_go_240 (by decide) ?_
  refine lv_aload_n hx hb dX4_go_241 rfl (lv_at hl 0 rfl) ?_
  refine x_get C hR inX4 61 (by decide) (cz3 rfl) rfl 3 (by decide) 14 rfl (.int (sI σ231 61 3)) rfl dX4_go_242 ?_
  refine lv_imul hx hb dX4_go_245 ?_
  refine lv_iadd hx hb dX4_go_246 ?_
  obtain ⟨σ247_, hc_247, hf⟩ := bv_some hf
  refine x_cvV C hl.1 hR hS (c_X2_put l G 67 66 rfl rfl rfl x2 (((r222 + r231) + (sI σ231 61 6)) + (2 * (sI σ231 61 3))) σ231 _ hc_247) gX4_go_X2_put rfl hdV_X2_put ⟨Nat.le_of_ble_eq_true rfl, Nat.le_of_ble_eq_true rfl⟩ (by decide) (cz1 rfl) rfl rfl (As := [.int x2, .int (((r222 + r231) + (sI σ231 61 6)) + (2 * (sI σ231 61 3)))]) (rest := []) rfl (Nat.le_of_ble_eq_true rfl) ⟨Nat.le_of_ble_eq_true rfl, Nat.le_of_ble_eq_true rfl⟩ dX4_go_247 (fun σ247 H locs hq_247 hR hS => ?_)
  subst hq_247
  refine lv_aload_n hx hb dX4_go_250 rfl (lv_at hl 0 rfl) ?_
  refine lv_aload_n hx hb dX4_go_251 rfl (lv_at hl 0 rfl) ?_
  refine x_get C hR inX4 61 (by decide) (cz3 rfl) rfl 11 (by decide) 9 rfl (.ref (G.2.1 66)) rfl dX4_go_252 ?_
  refine lv_iload_n hx hb dX4_go_255 rfl (lv_at hl 2 rfl) ?_
  obtain ⟨r256_, σ256_, hc_256, hf⟩ := bd_some hf
  refine x_cvI C hl.1 hR hS (c_X2_get l G 67 66 rfl rfl rfl x2 σ247 _ hc_256) gX4_go_X2_get rfl hdV_X2_get ⟨Nat.le_of_ble_eq_true rfl, Nat.le_of_ble_eq_true rfl⟩ (by decide) (cz1 rfl) rfl rfl (As := [.int x2]) (rest := [.ref (G.2.1 61)]) rfl (Nat.le_of_ble_eq_true rfl) ⟨Nat.le_of_ble_eq_true rfl, Nat.le_of_ble_eq_true rfl⟩ dX4_go_256 (fun r256 σ256 H locs hq_256 hR hS => ?_)
  obtain ⟨rfl, rfl⟩ := hq_256
  refine x_put (τ := (pI σ256 61 7 r256)) C hR hS inX4 tyX4 tyX4_ok nmX4 61 (by decide) (cz3 rfl) rfl 7 (by decide) (pfI3_7 rfl) pI_o 1 rfl rfl rfl rfl (Nat.le_of_ble_eq_true rfl) dX4_go_259 (fun H locs hR hS => ?_)
  refine lv_aload_n hx hb dX4_go_262 rfl (lv_at hl 0 rfl) ?_
  refine lv_dup hx hb dX4_go_263 rfl ?_
  refine x_get C hR inX4 61 (by decide) (cz3 rfl) rfl 8 (by decide) 2 rfl (.int (sI σ256 61 8)) rfl dX4_go_264 ?_
  refine lv_iconst (v := 1) hx hb dX4_go_267 (by decide) ?_
  refine lv_aload_n hx hb dX4_go_268 rfl (lv_at hl 0 rfl) ?_
  refine x_get C hR inX4 61 (by decide) (cz3 rfl) rfl 13 (by decide) 7 rfl (.ref (G.2.1 70)) rfl dX4_go_269 ?_
  refine lv_iload_n hx hb dX4_go_272 rfl (lv_at hl 2 rfl) ?_
  obtain ⟨r273_, σ273_, hc_273, hf⟩ := bd_some hf
  refine x_cvI C hl.1 hR hS (c_X2_get l G 71 70 rfl rfl rfl x2 (pI σ256 61 7 r256) _ hc_273) gX4_go_X2_get rfl hdV_X2_get ⟨Nat.le_of_ble_eq_true rfl, Nat.le_of_ble_eq_true rfl⟩ (by decide) (cz1 rfl) rfl rfl (As := [.int x2]) (rest := [.int 1, .int (sI σ256 61 8), .ref (G.2.1 61)]) rfl (Nat.le_of_ble_eq_true rfl) ⟨Nat.le_of_ble_eq_true rfl, Nat.le_of_ble_eq_true rfl⟩ dX4_go_273 (fun r273 σ273 H locs hq_273 hR hS => ?_)
  obtain ⟨rfl, rfl⟩ := hq_273
  refine lv_iadd hx hb dX4_go_276 ?_
  refine lv_iadd hx hb dX4_go_277 ?_
  refine x_put (τ := (pI σ273 61 8 ((sI σ256 61 8) + (1 + r273)))) C hR hS inX4 tyX4 tyX4_ok nmX4 61 (by decide) (cz3 rfl) rfl 8 (by decide) (pfI3_8 rfl) pI_o 2 rfl rfl rfl rfl (Nat.le_of_ble_eq_true rfl) dX4_go_278 (fun H locs hR hS => ?_)
  refine lv_iinc (v := x2 + 1) (lv' := [(2, .int (x2 + 1)), (0, .ref (G.2.1 61)), (1, .ref (G.2.1 1)), (4, .int x4)]) hx hb dX4_go_281 hl (k := 2) rfl rfl (by decide) rfl (fun ls hl => ?_)
  refine lv_goto (tgt := 12) hx hb dX4_go_284 (by decide) ?_
  exact hrc12 (x2 + 1) _ hf _ _ _ hR hS (lv_sub hl [1, 2, 0] rfl)
set_option maxHeartbeats 4000000 in
set_option maxRecDepth 100000 in
theorem w_X4_go_196 {p : Program} {l : Launch} {e : Env} {s : State} {m : MethodId} {args : Array Value} {below : List Frame} {meth : Method} {c : Code} {G : GG} (C : Cx p s m args meth c cX4_go RX4 wsX4_go (some .int) 8 G) {res : Int32 × St} {rc12 : Int32 → St → Option (Int32 × St)} (hrc12 : ∀ (x2 : Int32) (σ : St), rc12 x2 σ = some res → WC p l e 2 s m args below meth c G (QI G res) 8 12 [(0, .ref (G.2.1 61)), (1, .ref (G.2.1 1)), (2, .int x2)] [] σ) : ∀ (x2 : Int32) (x4 : Int32) (x7 : Int32) (t0 : Int32) (t1 : Int32) (t2 : Int32) (σ : St), f_X4_go_196 rc12 x2 x4 x7 t0 t1 t2 σ = some res → WC p l e 2 s m args below meth c G (QI G res) 8 196 [(0, .ref (G.2.1 61)), (1, .ref (G.2.1 1)), (2, .int x2), (4, .int x4), (7, .int x7)] [.int t0, .int t1, .int t2, .ref (G.2.1 68)] σ := by
  have hx := C.1
  have hb := C.2.1
  have inX4 : ∀ w ∈ u_ws RX4 TX4 14, w ∈ wsX4_go := fun w h => List.mem_cons_of_mem _ (List.mem_append_left _ (List.mem_append_left _ (List.mem_append_right _ h)))
  have inX0 : ∀ w ∈ u_ws RX0 TX0 14, w ∈ wsX4_go := fun w h => List.mem_cons_of_mem _ (List.mem_append_left _ (List.mem_append_right _ h))
  intro x2 x4 x7 t0 t1 t2 σ hf _ _ _ hR hS hl
  unfold f_X4_go_196 at hf
  refine lv_iadd hx hb dX4_go_196 ?_
  obtain ⟨σ197_, hc_197, hf⟩ := bv_some hf
  refine x_cvV C hl.1 hR hS (c_X2_put l G 69 68 rfl rfl rfl t2 (t1 + t0) σ _ hc_197) gX4_go_X2_put rfl hdV_X2_put ⟨Nat.le_of_ble_eq_true rfl, Nat.le_of_ble_eq_true rfl⟩ (by decide) (cz1 rfl) rfl rfl (As := [.int t2, .int (t1 + t0)]) (rest := []) rfl (Nat.le_of_ble_eq_true rfl) ⟨Nat.le_of_ble_eq_true rfl, Nat.le_of_ble_eq_true rfl⟩ dX4_go_197 (fun σ197 H locs hq_197 hR hS => ?_)
  subst hq_197
  refine lv_aload_n hx hb dX4_go_200 rfl (lv_at hl 0 rfl) ?_
  refine lv_iload_n hx hb dX4_go_201 rfl (lv_at hl 2 rfl) ?_
  refine lv_iload hx hb dX4_go_202 (lv_at hl 4 rfl) ?_
  refine lv_iload hx hb dX4_go_204 (lv_at hl 3 rfl) ?_
  obtain ⟨r206_, σ206_, hc_206, hf⟩ := bd_some hf
  refine x_csI C hl.1 hR hS (c_X1_staysMinutes l G x4 σ197 _ hc_206) gX4_go_X1_staysMinutes rfl hdS_X1_staysMinutes ⟨Nat.le_of_ble_eq_true rfl, Nat.le_of_ble_eq_true rfl⟩ rfl (As := [.int x4]) (rest := [.int x7, .int x2, .ref (G.2.1 61)]) rfl (Nat.le_of_ble_eq_true rfl) ⟨Nat.le_of_ble_eq_true rfl, Nat.le_of_ble_eq_true rfl⟩ dX4_go_206 (fun r206 σ206 H locs hq_206 hR hS => ?_)
  obtain ⟨rfl, rfl⟩ := hq_206
  obtain ⟨σ209_, hc_209, hf⟩ := bv_some hf
  refine x_cvV C hl.1 hR hS (c_X4_enterBehind l G x2 x7 r206 σ206 _ hc_209) gX4_go_X4_enterBehind rfl hdV_X4_enterBehind ⟨Nat.le_of_ble_eq_true rfl, Nat.le_of_ble_eq_true rfl⟩ (by decide) (cz3 rfl) rfl rfl (As := [.int x2, .int x7, .int r206]) (rest := []) rfl (Nat.le_of_ble_eq_true rfl) ⟨Nat.le_of_ble_eq_true rfl, Nat.le_of_ble_eq_true rfl⟩ dX4_go_209 (fun σ209 H locs hq_209 hR hS => ?_)
  subst hq_209
  exact w_X4_go_212 C hrc12 x2 x4 _ hf _ _ _ hR hS (lv_sub hl [0, 1, 2, 3] rfl)
set_option maxHeartbeats 4000000 in
set_option maxRecDepth 100000 in
theorem w_X4_go_166 {p : Program} {l : Launch} {e : Env} {s : State} {m : MethodId} {args : Array Value} {below : List Frame} {meth : Method} {c : Code} {G : GG} (C : Cx p s m args meth c cX4_go RX4 wsX4_go (some .int) 8 G) {res : Int32 × St} {rc12 : Int32 → St → Option (Int32 × St)} (hrc12 : ∀ (x2 : Int32) (σ : St), rc12 x2 σ = some res → WC p l e 2 s m args below meth c G (QI G res) 8 12 [(0, .ref (G.2.1 61)), (1, .ref (G.2.1 1)), (2, .int x2)] [] σ) : ∀ (x2 : Int32) (x4 : Int32) (t0 : Int32) (t1 : Int32) (t2 : Int32) (σ : St), f_X4_go_166 rc12 x2 x4 t0 t1 t2 σ = some res → WC p l e 2 s m args below meth c G (QI G res) 8 166 [(0, .ref (G.2.1 61)), (1, .ref (G.2.1 1)), (2, .int x2), (4, .int x4)] [.int t0, .int t1, .int t2, .ref (G.2.1 64)] σ := by
  have hx := C.1
  have hb := C.2.1
  have inX4 : ∀ w ∈ u_ws RX4 TX4 14, w ∈ wsX4_go := fun w h => List.mem_cons_of_mem _ (List.mem_append_left _ (List.mem_append_left _ (List.mem_append_right _ h)))
  have inX0 : ∀ w ∈ u_ws RX0 TX0 14, w ∈ wsX4_go := fun w h => List.mem_cons_of_mem _ (List.mem_append_left _ (List.mem_append_right _ h))
  intro x2 x4 t0 t1 t2 σ hf _ _ _ hR hS hl
  unfold f_X4_go_166 at hf
  refine lv_iadd hx hb dX4_go_166 ?_
  obtain ⟨σ167_, hc_167, hf⟩ := bv_some hf
  refine x_cvV C hl.1 hR hS (c_X2_put l G 65 64 rfl rfl rfl t2 (t1 + t0) σ _ hc_167) gX4_go_X2_put rfl hdV_X2_put ⟨Nat.le_of_ble_eq_true rfl, Nat.le_of_ble_eq_true rfl⟩ (by decide) (cz1 rfl) rfl rfl (As := [.int t2, .int (t1 + t0)]) (rest := []) rfl (Nat.le_of_ble_eq_true rfl) ⟨Nat.le_of_ble_eq_true rfl, Nat.le_of_ble_eq_true rfl⟩ dX4_go_167 (fun σ167 H locs hq_167 hR hS => ?_)
  subst hq_167
  refine lv_goto (tgt := 212) hx hb dX4_go_170 (by decide) ?_
  exact w_X4_go_212 C hrc12 x2 x4 _ hf _ _ _ hR hS (lv_sub hl [0, 1, 2, 3] rfl)
set_option maxHeartbeats 4000000 in
set_option maxRecDepth 100000 in
theorem w_X4_go_123 {p : Program} {l : Launch} {e : Env} {s : State} {m : MethodId} {args : Array Value} {below : List Frame} {meth : Method} {c : Code} {G : GG} (C : Cx p s m args meth c cX4_go RX4 wsX4_go (some .int) 8 G) {res : Int32 × St} {rc12 : Int32 → St → Option (Int32 × St)} (hrc12 : ∀ (x2 : Int32) (σ : St), rc12 x2 σ = some res → WC p l e 2 s m args below meth c G (QI G res) 8 12 [(0, .ref (G.2.1 61)), (1, .ref (G.2.1 1)), (2, .int x2)] [] σ) : ∀ (x2 : Int32) (x4 : Int32) (x5 : Int32) (x6 : Int32) (x7 : Int32) (t0 : Int32) (t1 : Int32) (σ : St), f_X4_go_123 rc12 x2 x4 x5 x6 x7 t0 t1 σ = some res → WC p l e 2 s m args below meth c G (QI G res) 8 123 [(0, .ref (G.2.1 61)), (1, .ref (G.2.1 1)), (2, .int x2), (4, .int x4), (5, .int x5), (6, .int x6), (7, .int x7)] [.int t0, .int t1, .ref (G.2.1 62)] σ := by
  have hx := C.1
  have hb := C.2.1
  have inX4 : ∀ w ∈ u_ws RX4 TX4 14, w ∈ wsX4_go := fun w h => List.mem_cons_of_mem _ (List.mem_append_left _ (List.mem_append_left _ (List.mem_append_right _ h)))
  have inX0 : ∀ w ∈ u_ws RX0 TX0 14, w ∈ wsX4_go := fun w h => List.mem_cons_of_mem _ (List.mem_append_left _ (List.mem_append_right _ h))
  intro x2 x4 x5 x6 x7 t0 t1 σ hf _ _ _ hR hS hl
  unfold f_X4_go_123 at hf
  obtain ⟨σ123_, hc_123, hf⟩ := bv_some hf
  refine x_cvV C hl.1 hR hS (c_X2_put l G 63 62 rfl rfl rfl t1 t0 σ _ hc_123) gX4_go_X2_put rfl hdV_X2_put ⟨Nat.le_of_ble_eq_true rfl, Nat.le_of_ble_eq_true rfl⟩ (by decide) (cz1 rfl) rfl rfl (As := [.int t1, .int t0]) (rest := []) rfl (Nat.le_of_ble_eq_true rfl) ⟨Nat.le_of_ble_eq_true rfl, Nat.le_of_ble_eq_true rfl⟩ dX4_go_123 (fun σ123 H locs hq_123 hR hS => ?_)
  subst hq_123
  refine lv_aload_n hx hb dX4_go_126 rfl (lv_at hl 0 rfl) ?_
  refine x_get C hR inX4 61 (by decide) (cz3 rfl) rfl 1 (by decide) 10 rfl (.int (sI σ123 61 1)) rfl dX4_go_127 ?_
  refine lv_if_ne (tgt := 173) hx hb dX4_go_130 (by decide) (fun c_130 => ?_) (fun c_130 => ?_)
  · replace hf := (if_neg c_130).symm.trans hf
    refine lv_aload_n hx hb dX4_go_173 rfl (lv_at hl 0 rfl) ?_
    refine x_get C hR inX4 61 (by decide) (cz3 rfl) rfl 12 (by decide) 11 rfl (.ref (G.2.1 68)) rfl dX4_go_174 ?_
    refine lv_iload_n hx hb dX4_go_177 rfl (lv_at hl 2 rfl) ?_
    refine lv_aload_n hx hb dX4_go_178 rfl (lv_at hl 0 rfl) ?_
    refine lv_iload_n hx hb dX4_go_179 rfl (lv_at hl 2 rfl) ?_
    refine lv_iload hx hb dX4_go_180 (lv_at hl 4 rfl) ?_
    obtain ⟨r182_, σ182_, hc_182, hf⟩ := bd_some hf
    refine x_cvI C hl.1 hR hS (c_X4_aheadComes l G x2 x5 σ123 _ hc_182) gX4_go_X4_aheadComes rfl hdV_X4_aheadComes ⟨Nat.le_of_ble_eq_true rfl, Nat.le_of_ble_eq_true rfl⟩ (by decide) (cz3 rfl) rfl rfl (As := [.int x2, .int x5]) (rest := [.int x2, .ref (G.2.1 68)]) rfl (Nat.le_of_ble_eq_true rfl) ⟨Nat.le_of_ble_eq_true rfl, Nat.le_of_ble_eq_true rfl⟩ dX4_go_182 (fun r182 σ182 H locs hq_182 hR hS => ?_)
    obtain ⟨rfl, rfl⟩ := hq_182
    refine lv_iload hx hb dX4_go_185 (lv_at hl 5 rfl) ?_
    refine lv_if_eq (tgt := 194) hx hb dX4_go_187 (by decide) (fun c_187 => ?_) (fun c_187 => ?_)
    · replace hf := (if_pos c_187).symm.trans hf
      refine lv_iload hx hb dX4_go_194 (lv_at hl 6 rfl) ?_
      exact w_X4_go_196 C hrc12 x2 x4 x7 x7 r182 x2 _ hf _ _ _ hR hS (lv_sub hl [0, 1, 2, 3, 6] rfl)
    · replace hf := (if_neg c_187).symm.trans hf
      refine lv_iconst (v := 0) hx hb dX4_go_190 (by decide) ?_
      refine lv_goto (tgt := 196) hx hb dX4_go_191 (by decide) ?_
      exact w_X4_go_196 C hrc12 x2 x4 x7 0 r182 x2 _ hf _ _ _ hR hS (lv_sub hl [0, 1, 2, 3, 6] rfl)
  · replace hf := (if_pos c_130).symm.trans hf
    refine lv_aload_n hx hb dX4_go_133 rfl (lv_at hl 0 rfl) ?_
    refine x_get C hR inX4 61 (by decide) (cz3 rfl) rfl 12 (by decide) 11 rfl (.ref (G.2.1 68)) rfl dX4_go_134 ?_
    refine lv_iload_n hx hb dX4_go_137 rfl (lv_at hl 2 rfl) ?_
    refine lv_iconst (v := (-1)) hx hb dX4_go_138 (by decide) ?_
    obtain ⟨σ139_, hc_139, hf⟩ := bv_some hf
    refine x_cvV C hl.1 hR hS (c_X2_put l G 69 68 rfl rfl rfl x2 (-1) σ123 _ hc_139) gX4_go_X2_put rfl hdV_X2_put ⟨Nat.le_of_ble_eq_true rfl, Nat.le_of_ble_eq_true rfl⟩ (by decide) (cz1 rfl) rfl rfl (As := [.int x2, .int (-1)]) (rest := []) rfl (Nat.le_of_ble_eq_true rfl) ⟨Nat.le_of_ble_eq_true rfl, Nat.le_of_ble_eq_true rfl⟩ dX4_go_139 (fun σ139 H locs hq_139 hR hS => ?_)
    subst hq_139
    refine lv_aload_n hx hb dX4_go_142 rfl (lv_at hl 0 rfl) ?_
    refine x_get C hR inX4 61 (by decide) (cz3 rfl) rfl 10 (by decide) 12 rfl (.ref (G.2.1 64)) rfl dX4_go_143 ?_
    refine lv_iload_n hx hb dX4_go_146 rfl (lv_at hl 2 rfl) ?_
    refine lv_aload_n hx hb dX4_go_147 rfl (lv_at hl 0 rfl) ?_
    refine x_get C hR inX4 61 (by decide) (cz3 rfl) rfl 9 (by decide) 8 rfl (.ref (G.2.1 62)) rfl dX4_go_148 ?_
    refine lv_iload_n hx hb dX4_go_151 rfl (lv_at hl 2 rfl) ?_
    obtain ⟨r152_, σ152_, hc_152, hf⟩ := bd_some hf
    refine x_cvI C hl.1 hR hS (c_X2_get l G 63 62 rfl rfl rfl x2 σ139 _ hc_152) gX4_go_X2_get rfl hdV_X2_get ⟨Nat.le_of_ble_eq_true rfl, Nat.le_of_ble_eq_true rfl⟩ (by decide) (cz1 rfl) rfl rfl (As := [.int x2]) (rest := [.int x2, .ref (G.2.1 64)]) rfl (Nat.le_of_ble_eq_true rfl) ⟨Nat.le_of_ble_eq_true rfl, Nat.le_of_ble_eq_true rfl⟩ dX4_go_152 (fun r152 σ152 H locs hq_152 hR hS => ?_)
    obtain ⟨rfl, rfl⟩ := hq_152
    refine lv_iload hx hb dX4_go_155 (lv_at hl 5 rfl) ?_
    refine lv_if_eq (tgt := 164) hx hb dX4_go_157 (by decide) (fun c_157 => ?_) (fun c_157 => ?_)
    · replace hf := (if_pos c_157).symm.trans hf
      refine lv_iload hx hb dX4_go_164 (lv_at hl 6 rfl) ?_
      exact w_X4_go_166 C hrc12 x2 x4 x7 r152 x2 _ hf _ _ _ hR hS (lv_sub hl [0, 1, 2, 3] rfl)
    · replace hf := (if_neg c_157).symm.trans hf
      refine lv_iconst (v := 0) hx hb dX4_go_160 (by decide) ?_
      refine lv_goto (tgt := 166) hx hb dX4_go_161 (by decide) ?_
      exact w_X4_go_166 C hrc12 x2 x4 0 r152 x2 _ hf _ _ _ hR hS (lv_sub hl [0, 1, 2, 3] rfl)
set_option maxHeartbeats 4000000 in
set_option maxRecDepth 100000 in
theorem w_X4_go_94 {p : Program} {l : Launch} {e : Env} {s : State} {m : MethodId} {args : Array Value} {below : List Frame} {meth : Method} {c : Code} {G : GG} (C : Cx p s m args meth c cX4_go RX4 wsX4_go (some .int) 8 G) {res : Int32 × St} {rc12 : Int32 → St → Option (Int32 × St)} (hrc12 : ∀ (x2 : Int32) (σ : St), rc12 x2 σ = some res → WC p l e 2 s m args below meth c G (QI G res) 8 12 [(0, .ref (G.2.1 61)), (1, .ref (G.2.1 1)), (2, .int x2)] [] σ) : ∀ (x2 : Int32) (x4 : Int32) (x5 : Int32) (x6 : Int32) (x7 : Int32) (t0 : Int32) (t1 : Int32) (σ : St), f_X4_go_94 rc12 x2 x4 x5 x6 x7 t0 t1 σ = some res → WC p l e 2 s m args below meth c G (QI G res) 8 94 [(0, .ref (G.2.1 61)), (1, .ref (G.2.1 1)), (2, .int x2), (4, .int x4), (5, .int x5), (6, .int x6), (7, .int x7)] [.int t0, .int t1, .ref (G.2.1 70)] σ := by
  have hx := C.1
  have hb := C.2.1
  have inX4 : ∀ w ∈ u_ws RX4 TX4 14, w ∈ wsX4_go := fun w h => List.mem_cons_of_mem _ (List.mem_append_left _ (List.mem_append_left _ (List.mem_append_right _ h)))
  have inX0 : ∀ w ∈ u_ws RX0 TX0 14, w ∈ wsX4_go := fun w h => List.mem_cons_of_mem _ (List.mem_append_left _ (List.mem_append_right _ h))
  intro x2 x4 x5 x6 x7 t0 t1 σ hf _ _ _ hR hS hl
  unfold f_X4_go_94 at hf
  obtain ⟨σ94_, hc_94, hf⟩ := bv_some hf
  refine x_cvV C hl.1 hR hS (c_X2_put l G 71 70 rfl rfl rfl t1 t0 σ _ hc_94) gX4_go_X2_put rfl hdV_X2_put ⟨Nat.le_of_ble_eq_true rfl, Nat.le_of_ble_eq_true rfl⟩ (by decide) (cz1 rfl) rfl rfl (As := [.int t1, .int t0]) (rest := []) rfl (Nat.le_of_ble_eq_true rfl) ⟨Nat.le_of_ble_eq_true rfl, Nat.le_of_ble_eq_true rfl⟩ dX4_go_94 (fun σ94 H locs hq_94 hR hS => ?_)
  subst hq_94
  refine lv_aload_n hx hb dX4_go_97 rfl (lv_at hl 0 rfl) ?_
  refine x_get C hR inX4 61 (by decide) (cz3 rfl) rfl 9 (by decide) 8 rfl (.ref (G.2.1 62)) rfl dX4_go_98 ?_
  refine lv_iload_n hx hb dX4_go_101 rfl (lv_at hl 2 rfl) ?_
  refine lv_iload_n hx hb dX4_go_102 rfl (lv_at hl 2 rfl) ?_
  refine lv_if_ne (tgt := 110) hx hb dX4_go_103 (by decide) (fun c_103 => ?_) (fun c_103 => ?_)
  · replace hf := (if_neg c_103).symm.trans hf
    refine lv_aload_n hx hb dX4_go_110 rfl (lv_at hl 0 rfl) ?_
    refine x_get C hR inX4 61 (by decide) (cz3 rfl) rfl 11 (by decide) 9 rfl (.ref (G.2.1 66)) rfl dX4_go_111 ?_
    refine lv_iload_n hx hb dX4_go_114 rfl (lv_at hl 2 rfl) ?_
    refine lv_iconst (v := 1) hx hb dX4_go_115 (by decide) ?_
    refine lv_isub hx hb dX4_go_116 ?_
    obtain ⟨r117_, σ117_, hc_117, hf⟩ := bd_some hf
    refine x_cvI C hl.1 hR hS (c_X2_get l G 67 66 rfl rfl rfl (x2 - 1) σ94 _ hc_117) gX4_go_X2_get rfl hdV_X2_get ⟨Nat.le_of_ble_eq_true rfl, Nat.le_of_ble_eq_true rfl⟩ (by decide) (cz1 rfl) rfl rfl (As := [.int (x2 - 1)]) (rest := [.int x2, .ref (G.2.1 62)]) rfl (Nat.le_of_ble_eq_true rfl) ⟨Nat.le_of_ble_eq_true rfl, Nat.le_of_ble_eq_true rfl⟩ dX4_go_117 (fun r117 σ117 H locs hq_117 hR hS => ?_)
    obtain ⟨rfl, rfl⟩ := hq_117
    refine lv_iload hx hb dX4_go_120 (lv_at hl 4 rfl) ?_
    refine lv_iadd hx hb dX4_go_122 ?_
    exact w_X4_go_123 C hrc12 x2 x4 x5 x6 x7 (r117 + x5) x2 _ hf _ _ _ hR hS (lv_sub hl [0, 1, 2, 3, 4, 5, 6] rfl)
  · replace hf := (if_pos c_103).symm.trans hf
    refine lv_iconst (v := 0) hx hb dX4_go_106 (by decide) ?_
    refine lv_goto (tgt := 123) hx hb dX4_go_107 (by decide) ?_
    exact w_X4_go_123 C hrc12 x2 x4 x5 x6 x7 0 x2 _ hf _ _ _ hR hS (lv_sub hl [0, 1, 2, 3, 4, 5, 6] rfl)
set_option maxHeartbeats 4000000 in
set_option maxRecDepth 100000 in
theorem w_X4_go_59 {p : Program} {l : Launch} {e : Env} {s : State} {m : MethodId} {args : Array Value} {below : List Frame} {meth : Method} {c : Code} {G : GG} (C : Cx p s m args meth c cX4_go RX4 wsX4_go (some .int) 8 G) {res : Int32 × St} {rc12 : Int32 → St → Option (Int32 × St)} (hrc12 : ∀ (x2 : Int32) (σ : St), rc12 x2 σ = some res → WC p l e 2 s m args below meth c G (QI G res) 8 12 [(0, .ref (G.2.1 61)), (1, .ref (G.2.1 1)), (2, .int x2)] [] σ) : ∀ (x2 : Int32) (x3 : Int32) (x4 : Int32) (t0 : Int32) (σ : St), f_X4_go_59 rc12 x2 x3 x4 t0 σ = some res → WC p l e 2 s m args below meth c G (QI G res) 8 59 [(0, .ref (G.2.1 61)), (1, .ref (G.2.1 1)), (2, .int x2), (3, .int x3), (4, .int x4)] [.int t0] σ := by
  have hx := C.1
  have hb := C.2.1
  have inX4 : ∀ w ∈ u_ws RX4 TX4 14, w ∈ wsX4_go := fun w h => List.mem_cons_of_mem _ (List.mem_append_left _ (List.mem_append_left _ (List.mem_append_right _ h)))
  have inX0 : ∀ w ∈ u_ws RX0 TX0 14, w ∈ wsX4_go := fun w h => List.mem_cons_of_mem _ (List.mem_append_left _ (List.mem_append_right _ h))
  intro x2 x3 x4 t0 σ hf _ _ _ hR hS hl
  unfold f_X4_go_59 at hf
  refine lv_istore (lv' := [(5, .int t0), (0, .ref (G.2.1 61)), (1, .ref (G.2.1 1)), (2, .int x2), (3, .int x3), (4, .int x4)]) hx hb dX4_go_59 hl (by decide) rfl (fun ls hl => ?_)
  refine lv_aload_n hx hb dX4_go_61 rfl (lv_at hl 1 rfl) ?_
  refine lv_iload_n hx hb dX4_go_62 rfl (lv_at hl 4 rfl) ?_
  obtain ⟨r63_, σ63_, hc_63, hf⟩ := bd_some hf
  refine x_cvI C hl.1 hR hS (c_X4_isRight l G x3 σ _ hc_63) gX4_go_X4_isRight rfl hdV_X4_isRight ⟨Nat.le_of_ble_eq_true rfl, Nat.le_of_ble_eq_true rfl⟩ (by decide) (cz3 rfl) rfl rfl (As := [.int x3]) (rest := []) rfl (Nat.le_of_ble_eq_true rfl) ⟨Nat.le_of_ble_eq_true rfl, Nat.le_of_ble_eq_true rfl⟩ dX4_go_63 (fun r63 σ63 H locs hq_63 hR hS => ?_)
  obtain ⟨rfl, rfl⟩ := hq_63
  refine lv_istore (lv' := [(6, .int r63), (5, .int t0), (0, .ref (G.2.1 61)), (1, .ref (G.2.1 1)), (2, .int x2), (3, .int x3), (4, .int x4)]) hx hb dX4_go_66 hl (by decide) rfl (fun ls hl => ?_)
  refine lv_iload hx hb dX4_go_68 (lv_at hl 6 rfl) ?_
  refine lv_aload_n hx hb dX4_go_70 rfl (lv_at hl 2 rfl) ?_
  refine x_get C hR inX4 61 (by decide) (cz3 rfl) rfl 4 (by decide) 6 rfl (.int (sI σ63 61 4)) rfl dX4_go_71 ?_
  obtain ⟨r74_, σ74_, hc_74, hf⟩ := bd_some hf
  refine x_csI C hl.1 hR hS (c_X1_readyMinutes l G x4 (sI σ63 61 4) σ63 _ hc_74) gX4_go_X1_readyMinutes rfl hdS_X1_readyMinutes ⟨Nat.le_of_ble_eq_true rfl, Nat.le_of_ble_eq_true rfl⟩ rfl (As := [.int x4, .int (sI σ63 61 4)]) (rest := []) rfl (Nat.le_of_ble_eq_true rfl) ⟨Nat.le_of_ble_eq_true rfl, Nat.le_of_ble_eq_true rfl⟩ dX4_go_74 (fun r74 σ74 H locs hq_74 hR hS => ?_)
  obtain ⟨rfl, rfl⟩ := hq_74
  refine lv_istore (lv' := [(7, .int r74), (6, .int r63), (5, .int t0), (0, .ref (G.2.1 61)), (1, .ref (G.2.1 1)), (2, .int x2), (3, .int x3), (4, .int x4)]) hx hb dX4_go_77 hl (by decide) rfl (fun ls hl => ?_)
  refine lv_aload_n hx hb dX4_go_79 rfl (lv_at hl 3 rfl) ?_
  refine x_get C hR inX4 61 (by decide) (cz3 rfl) rfl 13 (by decide) 7 rfl (.ref (G.2.1 70)) rfl dX4_go_80 ?_
  refine lv_iload_n hx hb dX4_go_83 rfl (lv_at hl 5 rfl) ?_
  refine lv_iload hx hb dX4_go_84 (lv_at hl 1 rfl) ?_
  refine lv_if_eq (tgt := 93) hx hb dX4_go_86 (by decide) (fun c_86 => ?_) (fun c_86 => ?_)
  · replace hf := (if_pos c_86).symm.trans hf
    refine lv_iconst (v := 1) hx hb dX4_go_93 (by decide) ?_
    exact w_X4_go_94 C hrc12 x2 x4 t0 r63 r74 1 x2 _ hf _ _ _ hR hS (lv_sub hl [3, 4, 5, 7, 2, 1, 0] rfl)
  · replace hf := (if_neg c_86).symm.trans hf
    refine lv_iconst (v := 0) hx hb dX4_go_89 (by decide) ?_
    refine lv_goto (tgt := 94) hx hb dX4_go_90 (by decide) ?_
    exact w_X4_go_94 C hrc12 x2 x4 t0 r63 r74 0 x2 _ hf _ _ _ hR hS (lv_sub hl [3, 4, 5, 7, 2, 1, 0] rfl)
set_option maxHeartbeats 4000000 in
set_option maxRecDepth 100000 in
theorem w_X4_go_12 {p : Program} {l : Launch} {e : Env} {s : State} {m : MethodId} {args : Array Value} {below : List Frame} {meth : Method} {c : Code} {G : GG} (C : Cx p s m args meth c cX4_go RX4 wsX4_go (some .int) 8 G) {res : Int32 × St} : ∀ (n : Nat) (x2 : Int32) (σ : St), f_X4_go_12 n x2 σ = some res → WC p l e 2 s m args below meth c G (QI G res) 8 12 [(0, .ref (G.2.1 61)), (1, .ref (G.2.1 1)), (2, .int x2)] [] σ := by
  have hx := C.1
  have hb := C.2.1
  have inX4 : ∀ w ∈ u_ws RX4 TX4 14, w ∈ wsX4_go := fun w h => List.mem_cons_of_mem _ (List.mem_append_left _ (List.mem_append_left _ (List.mem_append_right _ h)))
  have inX0 : ∀ w ∈ u_ws RX0 TX0 14, w ∈ wsX4_go := fun w h => List.mem_cons_of_mem _ (List.mem_append_left _ (List.mem_append_right _ h))
  intro n
  induction n with
  | zero => intro x2 σ hf; cases hf
  | succ n hrc12 =>
    intro x2 σ hf _ _ _ hR hS hl
    unfold f_X4_go_12 at hf
    refine lv_iload_n hx hb dX4_go_12 rfl (lv_at hl 2 rfl) ?_
    refine lv_aload_n hx hb dX4_go_13 rfl (lv_at hl 1 rfl) ?_
    refine x_get C hR inX0 1 (by decide) (cz0 rfl) rfl 0 (by decide) 3 rfl (.int (sI σ 1 0)) rfl dX4_go_14 ?_
    refine lv_icmp_ge (tgt := 287) hx hb dX4_go_17 (by decide) (fun c_17 => ?_) (fun c_17 => ?_)
    · replace hf := (if_pos c_17).symm.trans hf
      refine lv_aload_n hx hb dX4_go_287 rfl (lv_at hl 0 rfl) ?_
      refine x_get C hR inX4 61 (by decide) (cz3 rfl) rfl 7 (by decide) 1 rfl (.int (sI σ 61 7)) rfl dX4_go_288 ?_
      obtain rfl := Option.some.inj hf
      exact x_iret C hR hS dX4_go_291 ⟨rfl, rfl⟩
    · replace hf := (if_neg c_17).symm.trans hf
      refine lv_aload_n hx hb dX4_go_20 rfl (lv_at hl 1 rfl) ?_
      refine lv_aload_n hx hb dX4_go_21 rfl (lv_at hl 0 rfl) ?_
      refine x_get C hR inX4 61 (by decide) (cz3 rfl) rfl 0 (by decide) 4 rfl (.int (sI σ 61 0)) rfl dX4_go_22 ?_
      refine lv_iload_n hx hb dX4_go_25 rfl (lv_at hl 2 rfl) ?_
      obtain ⟨r26_, σ26_, hc_26, hf⟩ := bd_some hf
      refine x_cvI C hl.1 hR hS (c_X0_lockAt_1 l G (sI σ 61 0) x2 σ _ hc_26) gX4_go_X0_lockAt rfl hdV_X0_lockAt ⟨Nat.le_of_ble_eq_true rfl, Nat.le_of_ble_eq_true rfl⟩ (by decide) (cz0 rfl) rfl rfl (As := [.int (sI σ 61 0), .int x2]) (rest := []) rfl (Nat.le_of_ble_eq_true rfl) ⟨Nat.le_of_ble_eq_true rfl, Nat.le_of_ble_eq_true rfl⟩ dX4_go_26 (fun r26 σ26 H locs hq_26 hR hS => ?_)
      obtain ⟨rfl, rfl⟩ := hq_26
      refine lv_istore_n (lv' := [(3, .int r26), (0, .ref (G.2.1 61)), (1, .ref (G.2.1 1)), (2, .int x2)]) hx hb dX4_go_29 rfl hl (by decide) rfl (fun ls hl => ?_)
      refine lv_aload_n hx hb dX4_go_30 rfl (lv_at hl 2 rfl) ?_
      refine x_get C hR inX0 1 (by decide) (cz0 rfl) rfl 7 (by decide) 5 rfl (.ref (G.2.1 2)) rfl dX4_go_31 ?_
      refine lv_iload_n hx hb dX4_go_34 rfl (lv_at hl 0 rfl) ?_
      obtain ⟨r35_, σ35_, hc_35, hf⟩ := bd_some hf
      refine x_cvI C hl.1 hR hS (c_X2_get l G 3 2 rfl rfl rfl r26 σ26 _ hc_35) gX4_go_X2_get rfl hdV_X2_get ⟨Nat.le_of_ble_eq_true rfl, Nat.le_of_ble_eq_true rfl⟩ (by decide) (cz1 rfl) rfl rfl (As := [.int r26]) (rest := []) rfl (Nat.le_of_ble_eq_true rfl) ⟨Nat.le_of_ble_eq_true rfl, Nat.le_of_ble_eq_true rfl⟩ dX4_go_35 (fun r35 σ35 H locs hq_35 hR hS => ?_)
      obtain ⟨rfl, rfl⟩ := hq_35
      refine lv_istore (lv' := [(4, .int r35), (3, .int r26), (0, .ref (G.2.1 61)), (1, .ref (G.2.1 1)), (2, .int x2)]) hx hb dX4_go_38 hl (by decide) rfl (fun ls hl => ?_)
      refine lv_iload_n hx hb dX4_go_40 rfl (lv_at hl 4 rfl) ?_
      refine lv_if_ne (tgt := 48) hx hb dX4_go_41 (by decide) (fun c_41 => ?_) (fun c_41 => ?_)
      · replace hf := (if_neg c_41).symm.trans hf
        refine lv_aload_n hx hb dX4_go_48 rfl (lv_at hl 3 rfl) ?_
        refine lv_aload_n hx hb dX4_go_49 rfl (lv_at hl 2 rfl) ?_
        refine x_get C hR inX4 61 (by decide) (cz3 rfl) rfl 0 (by decide) 4 rfl (.int (sI σ35 61 0)) rfl dX4_go_50 ?_
        refine lv_iload_n hx hb dX4_go_53 rfl (lv_at hl 4 rfl) ?_
        refine lv_iconst (v := 1) hx hb dX4_go_54 (by decide) ?_
        refine lv_isub hx hb dX4_go_55 ?_
        obtain ⟨r56_, σ56_, hc_56, hf⟩ := bd_some hf
        refine x_cvI C hl.1 hR hS (c_X0_roadBehind_1 l G (sI σ35 61 0) (x2 - 1) σ35 _ hc_56) gX4_go_X0_roadBehind rfl hdV_X0_roadBehind ⟨Nat.le_of_ble_eq_true rfl, Nat.le_of_ble_eq_true rfl⟩ (by decide) (cz0 rfl) rfl rfl (As := [.int (sI σ35 61 0), .int (x2 - 1)]) (rest := []) rfl (Nat.le_of_ble_eq_true rfl) ⟨Nat.le_of_ble_eq_true rfl, Nat.le_of_ble_eq_true rfl⟩ dX4_go_56 (fun r56 σ56 H locs hq_56 hR hS => ?_)
        obtain ⟨rfl, rfl⟩ := hq_56
        exact w_X4_go_59 C hrc12 x2 r26 r35 r56 _ hf _ _ _ hR hS (lv_sub hl [2, 3, 4, 1, 0] rfl)
      · replace hf := (if_pos c_41).symm.trans hf
        refine lv_iconst (v := 0) hx hb dX4_go_44 (by decide) ?_
        refine lv_goto (tgt := 59) hx hb dX4_go_45 (by decide) ?_
        exact w_X4_go_59 C hrc12 x2 r26 r35 0 _ hf _ _ _ hR hS (lv_sub hl [2, 3, 4, 1, 0] rfl)
set_option maxHeartbeats 4000000 in
set_option maxRecDepth 100000 in
theorem c_X4_go (l : Launch) (G : GG) (σ : St) (res : Int32 × St) (hf : f_X4_go σ = some res) : CI l yX4_go wsX4_go 2 [.ref (G.2.1 61), .ref (G.2.1 1)] G σ (fun r u => r = res.1 ∧ u = res.2) := by
  refine x_ent (ret := (some .int)) cX4_go 8 (by decide) rfl (Nat.le_of_ble_eq_true rfl) ?_
  intro p e s m below meth c ls C hR hS hl
  have C : Cx p s m [.ref (G.2.1 61), .ref (G.2.1 1)].toArray meth c cX4_go RX4 wsX4_go (some .int) 8 G := C
  have hx := C.1
  have hb := C.2.1
  have hl : lv_has ls 8 [(0, .ref (G.2.1 61)), (1, .ref (G.2.1 1))] := hl
  have inX4 : ∀ w ∈ u_ws RX4 TX4 14, w ∈ wsX4_go := fun w h => List.mem_cons_of_mem _ (List.mem_append_left _ (List.mem_append_left _ (List.mem_append_right _ h)))
  have inX0 : ∀ w ∈ u_ws RX0 TX0 14, w ∈ wsX4_go := fun w h => List.mem_cons_of_mem _ (List.mem_append_left _ (List.mem_append_right _ h))
  unfold f_X4_go at hf
  refine lv_aload_n hx hb dX4_go_0 rfl (lv_at hl 0 rfl) ?_
  refine lv_iconst (v := 0) hx hb dX4_go_1 (by decide) ?_
  refine x_put (τ := (pI σ 61 7 0)) C hR hS inX4 tyX4 tyX4_ok nmX4 61 (by decide) (cz3 rfl) rfl 7 (by decide) (pfI3_7 rfl) pI_o 1 rfl rfl rfl rfl (Nat.le_of_ble_eq_true rfl) dX4_go_2 (fun H locs hR hS => ?_)
  refine lv_aload_n hx hb dX4_go_5 rfl (lv_at hl 0 rfl) ?_
  refine lv_iconst (v := 0) hx hb dX4_go_6 (by decide) ?_
  refine x_put (τ := (pI (pI σ 61 7 0) 61 8 0)) C hR hS inX4 tyX4 tyX4_ok nmX4 61 (by decide) (cz3 rfl) rfl 8 (by decide) (pfI3_8 rfl) pI_o 2 rfl rfl rfl rfl (Nat.le_of_ble_eq_true rfl) dX4_go_7 (fun H locs hR hS => ?_)
  refine lv_iconst (v := 0) hx hb dX4_go_10 (by decide) ?_
  refine lv_istore_n (lv' := [(2, .int 0), (0, .ref (G.2.1 61)), (1, .ref (G.2.1 1))]) hx hb dX4_go_11 rfl hl (by decide) rfl (fun ls hl => ?_)
  exact w_X4_go_12 C  FU 0 _ hf _ _ _ hR hS (lv_sub hl [1, 2, 0] rfl)
theorem hdV_X4_goWithRight : yX4_goWithRight.cls = RX4 ∧ yX4_goWithRight.cls ≠ "java/lang/invoke/MethodHandle" ∧ yX4_goWithRight.cls ≠ "java/lang/invoke/VarHandle" ∧ (parseMethodDescriptor yX4_goWithRight.desc).map (fun d => d.parameters.length) = some 2 := by decide +kernel
def f_X4_goWithRight_30 (x3 : Int32) (t0 : Int32) (σ : St) : Option (Int32 × St) :=
  bd (f_X4_go (pI σ 61 5 t0)) (fun r35 σ35 => some (r35, (pI σ35 61 5 x3)))
def f_X4_goWithRight (x2 : Int32) (σ : St) : Option (Int32 × St) :=
  (if (sI σ 61 0) = 0 then f_X4_goWithRight_30 (sI σ 61 5) ((sI σ 61 5) &&& (x2 ^^^ (-1))) σ else f_X4_goWithRight_30 (sI σ 61 5) ((sI σ 61 5) ||| x2) σ)
set_option maxHeartbeats 4000000 in
set_option maxRecDepth 100000 in
theorem w_X4_goWithRight_30 {p : Program} {l : Launch} {e : Env} {s : State} {m : MethodId} {args : Array Value} {below : List Frame} {meth : Method} {c : Code} {G : GG} (C : Cx p s m args meth c cX4_goWithRight RX4 wsX4_goWithRight (some .int) 5 G) {res : Int32 × St} : ∀ (x3 : Int32) (t0 : Int32) (σ : St), f_X4_goWithRight_30 x3 t0 σ = some res → WC p l e 3 s m args below meth c G (QI G res) 5 30 [(0, .ref (G.2.1 61)), (1, .ref (G.2.1 1)), (3, .int x3)] [.int t0, .ref (G.2.1 61)] σ := by
  have hx := C.1
  have hb := C.2.1
  have inX4 : ∀ w ∈ u_ws RX4 TX4 14, w ∈ wsX4_goWithRight := fun w h => List.mem_cons_of_mem _ (List.mem_append_left _ (List.mem_append_left _ (List.mem_append_right _ h)))
  intro x3 t0 σ hf _ _ _ hR hS hl
  unfold f_X4_goWithRight_30 at hf
  refine x_put (τ := (pI σ 61 5 t0)) C hR hS inX4 tyX4 tyX4_ok nmX4 61 (by decide) (cz3 rfl) rfl 5 (by decide) (pfI3_5 rfl) pI_o 1 rfl rfl rfl rfl (Nat.le_of_ble_eq_true rfl) dX4_goWithRight_30 (fun H locs hR hS => ?_)
  refine lv_aload_n hx hb dX4_goWithRight_33 rfl (lv_at hl 0 rfl) ?_
  refine lv_aload_n hx hb dX4_goWithRight_34 rfl (lv_at hl 1 rfl) ?_
  obtain ⟨r35_, σ35_, hc_35, hf⟩ := bd_some hf
  refine x_cvI C hl.1 hR hS (c_X4_go l G (pI σ 61 5 t0) _ hc_35) gX4_goWithRight_X4_go rfl hdV_X4_go ⟨Nat.le_of_ble_eq_true rfl, Nat.le_of_ble_eq_true rfl⟩ (by decide) (cz3 rfl) rfl rfl (As := [.ref (G.2.1 1)]) (rest := []) rfl (Nat.le_of_ble_eq_true rfl) ⟨Nat.le_of_ble_eq_true rfl, Nat.le_of_ble_eq_true rfl⟩ dX4_goWithRight_35 (fun r35 σ35 H locs hq_35 hR hS => ?_)
  obtain ⟨rfl, rfl⟩ := hq_35
  refine lv_istore (lv' := [(4, .int r35), (0, .ref (G.2.1 61)), (1, .ref (G.2.1 1)), (3, .int x3)]) hx hb dX4_goWithRight_38 hl (by decide) rfl (fun ls hl => ?_)
  refine lv_aload_n hx hb dX4_goWithRight_40 rfl (lv_at hl 1 rfl) ?_
  refine lv_iload_n hx hb dX4_goWithRight_41 rfl (lv_at hl 3 rfl) ?_
  refine x_put (τ := (pI σ35 61 5 x3)) C hR hS inX4 tyX4 tyX4_ok nmX4 61 (by decide) (cz3 rfl) rfl 5 (by decide) (pfI3_5 rfl) pI_o 1 rfl rfl rfl rfl (Nat.le_of_ble_eq_true rfl) dX4_goWithRight_42 (fun H locs hR hS => ?_)
  refine lv_iload hx hb dX4_goWithRight_45 (lv_at hl 0 rfl) ?_
  obtain rfl := Option.some.inj hf
  exact x_iret C hR hS dX4_goWithRight_47 ⟨rfl, rfl⟩
set_option maxHeartbeats 4000000 in
set_option maxRecDepth 100000 in
theorem c_X4_goWithRight (l : Launch) (G : GG) (x2 : Int32) (σ : St) (res : Int32 × St) (hf : f_X4_goWithRight x2 σ = some res) : CI l yX4_goWithRight wsX4_goWithRight 3 [.ref (G.2.1 61), .ref (G.2.1 1), .int x2] G σ (fun r u => r = res.1 ∧ u = res.2) := by
  refine x_ent (ret := (some .int)) cX4_goWithRight 5 (by decide) rfl (Nat.le_of_ble_eq_true rfl) ?_
  intro p e s m below meth c ls C hR hS hl
  have C : Cx p s m [.ref (G.2.1 61), .ref (G.2.1 1), .int x2].toArray meth c cX4_goWithRight RX4 wsX4_goWithRight (some .int) 5 G := C
  have hx := C.1
  have hb := C.2.1
  have hl : lv_has ls 5 [(0, .ref (G.2.1 61)), (1, .ref (G.2.1 1)), (2, .int x2)] := hl
  have inX4 : ∀ w ∈ u_ws RX4 TX4 14, w ∈ wsX4_goWithRight := fun w h => List.mem_cons_of_mem _ (List.mem_append_left _ (List.mem_append_left _ (List.mem_append_right _ h)))
  unfold f_X4_goWithRight at hf
  refine lv_aload_n hx hb dX4_goWithRight_0 rfl (lv_at hl 0 rfl) ?_
  refine x_get C hR inX4 61 (by decide) (cz3 rfl) rfl 5 (by decide) 1 rfl (.int (sI σ 61 5)) rfl dX4_goWithRight_1 ?_
  refine lv_istore_n (lv' := [(3, .int (sI σ 61 5)), (0, .ref (G.2.1 61)), (1, .ref (G.2.1 1)), (2, .int x2)]) hx hb dX4_goWithRight_4 rfl hl (by decide) rfl (fun ls hl => ?_)
  refine lv_aload_n hx hb dX4_goWithRight_5 rfl (lv_at hl 1 rfl) ?_
  refine lv_aload_n hx hb dX4_goWithRight_6 rfl (lv_at hl 1 rfl) ?_
  refine x_get C hR inX4 61 (by decide) (cz3 rfl) rfl 0 (by decide) 2 rfl (.int (sI σ 61 0)) rfl dX4_goWithRight_7 ?_
  refine lv_if_ne (tgt := 24) hx hb dX4_goWithRight_10 (by decide) (fun c_10 => ?_) (fun c_10 => ?_)
  · replace hf := (if_neg c_10).symm.trans hf
    refine lv_aload_n hx hb dX4_goWithRight_24 rfl (lv_at hl 1 rfl) ?_
    refine x_get C hR inX4 61 (by decide) (cz3 rfl) rfl 5 (by decide) 1 rfl (.int (sI σ 61 5)) rfl dX4_goWithRight_25 ?_
    refine lv_iload_n hx hb dX4_goWithRight_28 rfl (lv_at hl 3 rfl) ?_
    refine lv_ior hx hb dX4_goWithRight_29 ?_
    exact w_X4_goWithRight_30 C  (sI σ 61 5) ((sI σ 61 5) ||| x2) _ hf _ _ _ hR hS (lv_sub hl [1, 2, 0] rfl)
  · replace hf := (if_pos c_10).symm.trans hf
    refine lv_aload_n hx hb dX4_goWithRight_13 rfl (lv_at hl 1 rfl) ?_
    refine x_get C hR inX4 61 (by decide) (cz3 rfl) rfl 5 (by decide) 1 rfl (.int (sI σ 61 5)) rfl dX4_goWithRight_14 ?_
    refine lv_iload_n hx hb dX4_goWithRight_17 rfl (lv_at hl 3 rfl) ?_
    refine lv_iconst (v := (-1)) hx hb dX4_goWithRight_18 (by decide) ?_
    refine lv_ixor hx hb dX4_goWithRight_19 ?_
    refine lv_iand hx hb dX4_goWithRight_20 ?_
    refine lv_goto (tgt := 30) hx hb dX4_goWithRight_21 (by decide) ?_
    exact w_X4_goWithRight_30 C  (sI σ 61 5) ((sI σ 61 5) &&& (x2 ^^^ (-1))) _ hf _ _ _ hR hS (lv_sub hl [1, 2, 0] rfl)
theorem hdV_X4_standsBehind : yX4_standsBehind.cls = RX4 ∧ yX4_standsBehind.cls ≠ "java/lang/invoke/MethodHandle" ∧ yX4_standsBehind.cls ≠ "java/lang/invoke/VarHandle" ∧ (parseMethodDescriptor yX4_standsBehind.desc).map (fun d => d.parameters.length) = some 1 := by decide +kernel
def f_X4_standsBehind (σ : St) : Option (Int32 × St) :=
  (if (sI σ 61 0) = 0 then bd (f_X0_allLocks_1 σ) (fun r8 σ8 => some (r8, σ8)) else some (0, σ))
set_option maxHeartbeats 4000000 in
set_option maxRecDepth 100000 in
theorem c_X4_standsBehind (l : Launch) (G : GG) (σ : St) (res : Int32 × St) (hf : f_X4_standsBehind σ = some res) : CI l yX4_standsBehind wsX4_standsBehind 1 [.ref (G.2.1 61), .ref (G.2.1 1)] G σ (fun r u => r = res.1 ∧ u = res.2) := by
  refine x_ent (ret := (some .int)) cX4_standsBehind 2 (by decide) rfl (Nat.le_of_ble_eq_true rfl) ?_
  intro p e s m below meth c ls C hR hS hl
  have C : Cx p s m [.ref (G.2.1 61), .ref (G.2.1 1)].toArray meth c cX4_standsBehind RX4 wsX4_standsBehind (some .int) 2 G := C
  have hx := C.1
  have hb := C.2.1
  have hl : lv_has ls 2 [(0, .ref (G.2.1 61)), (1, .ref (G.2.1 1))] := hl
  have inX4 : ∀ w ∈ u_ws RX4 TX4 14, w ∈ wsX4_standsBehind := fun w h => List.mem_cons_of_mem _ (List.mem_append_left _ (List.mem_append_right _ h))
  unfold f_X4_standsBehind at hf
  refine lv_aload_n hx hb dX4_standsBehind_0 rfl (lv_at hl 0 rfl) ?_
  refine x_get C hR inX4 61 (by decide) (cz3 rfl) rfl 0 (by decide) 1 rfl (.int (sI σ 61 0)) rfl dX4_standsBehind_1 ?_
  refine lv_if_ne (tgt := 14) hx hb dX4_standsBehind_4 (by decide) (fun c_4 => ?_) (fun c_4 => ?_)
  · replace hf := (if_neg c_4).symm.trans hf
    refine lv_iconst (v := 0) hx hb dX4_standsBehind_14 (by decide) ?_
    obtain rfl := Option.some.inj hf
    exact x_iret C hR hS dX4_standsBehind_15 ⟨rfl, rfl⟩
  · replace hf := (if_pos c_4).symm.trans hf
    refine lv_aload_n hx hb dX4_standsBehind_7 rfl (lv_at hl 1 rfl) ?_
    obtain ⟨r8_, σ8_, hc_8, hf⟩ := bd_some hf
    refine x_cvI C hl.1 hR hS (c_X0_allLocks_1 l G σ _ hc_8) gX4_standsBehind_X0_allLocks rfl hdV_X0_allLocks ⟨Nat.le_of_ble_eq_true rfl, Nat.le_of_ble_eq_true rfl⟩ (by decide) (cz0 rfl) rfl rfl (As := []) (rest := []) rfl (Nat.le_of_ble_eq_true rfl) ⟨Nat.le_of_ble_eq_true rfl, Nat.le_of_ble_eq_true rfl⟩ dX4_standsBehind_8 (fun r8 σ8 H locs hq_8 hR hS => ?_)
    obtain ⟨rfl, rfl⟩ := hq_8
    refine lv_goto (tgt := 15) hx hb dX4_standsBehind_11 (by decide) ?_
    obtain rfl := Option.some.inj hf
    exact x_iret C hR hS dX4_standsBehind_15 ⟨rfl, rfl⟩
