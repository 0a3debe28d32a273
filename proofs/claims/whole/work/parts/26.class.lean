theorem hdV_X5_refusedBad : yX5_refusedBad.cls = RX5 ∧ yX5_refusedBad.cls ≠ "java/lang/invoke/MethodHandle" ∧ yX5_refusedBad.cls ≠ "java/lang/invoke/VarHandle" ∧ (parseMethodDescriptor yX5_refusedBad.desc).map (fun d => d.parameters.length) = some 0 := by decide +kernel
def f_X5_refusedBad (σ : St) : Option (Int32 × St) :=
  some ((-2), (pI σ 0 10 ((sI σ 0 10) + 1)))
set_option maxHeartbeats 4000000 in
set_option maxRecDepth 100000 in
theorem c_X5_refusedBad (l : Launch) (G : GG) (σ : St) (res : Int32 × St) (hf : f_X5_refusedBad σ = some res) : CI l yX5_refusedBad wsX5_refusedBad 0 [.ref (G.2.1 0)] G σ (fun r u => r = res.1 ∧ u = res.2) := by
  refine x_ent (ret := (some .int)) cX5_refusedBad 1 (by decide) rfl (Nat.le_of_ble_eq_true rfl) ?_
  intro p e s m below meth c ls C hR hS hl
  have C : Cx p s m [.ref (G.2.1 0)].toArray meth c cX5_refusedBad RX5 wsX5_refusedBad (some .int) 1 G := C
  have hx := C.1
  have hb := C.2.1
  have hl : lv_has ls 1 [(0, .ref (G.2.1 0))] := hl
  have inX5 : ∀ w ∈ u_ws RX5 TX5 13, w ∈ wsX5_refusedBad := fun w h => List.mem_cons_of_mem _ (List.mem_append_right _ h)
  unfold f_X5_refusedBad at hf
  refine lv_aload_n hx hb dX5_refusedBad_0 rfl (lv_at hl 0 rfl) ?_
  refine lv_dup hx hb dX5_refusedBad_1 rfl ?_
  refine x_get C hR inX5 0 (by decide) (cz4 rfl) rfl 10 (by decide) 1 rfl (.int (sI σ 0 10)) rfl dX5_refusedBad_2 ?_
  refine lv_iconst (v := 1) hx hb dX5_refusedBad_5 (by decide) ?_
  refine lv_iadd hx hb dX5_refusedBad_6 ?_
  refine x_put (τ := (pI σ 0 10 ((sI σ 0 10) + 1))) C hR hS inX5 tyX5 tyX5_ok nmX5 0 (by decide) (cz4 rfl) rfl 10 (by decide) (pfI4_10 rfl) pI_o 1 rfl rfl rfl rfl (Nat.le_of_ble_eq_true rfl) dX5_refusedBad_7 (fun H locs hR hS => ?_)
  refine lv_bipush (v := (-2)) hx hb dX5_refusedBad_10 (by decide) ?_
  obtain rfl := Option.some.inj hf
  exact x_iret C hR hS dX5_refusedBad_12 ⟨rfl, rfl⟩
theorem hdV_X5_flight : yX5_flight.cls = RX5 ∧ yX5_flight.cls ≠ "java/lang/invoke/MethodHandle" ∧ yX5_flight.cls ≠ "java/lang/invoke/VarHandle" ∧ (parseMethodDescriptor yX5_flight.desc).map (fun d => d.parameters.length) = some 1 := by decide +kernel
def f_X5_flight (x1 : Int32) (σ : St) : Option (Int32 × St) :=
  bd (f_X5_within x1 0 9 σ) (fun r4 σ4 => (if r4 = 0 then bd (f_X5_refusedBad σ4) (fun r11 σ11 => some (r11, σ11)) else bv (f_X0_reset_1 x1 σ4) (fun σ28 => some (sI σ4 1 0, σ28))))
set_option maxHeartbeats 4000000 in
set_option maxRecDepth 100000 in
theorem c_X5_flight (l : Launch) (G : GG) (x1 : Int32) (σ : St) (res : Int32 × St) (hf : f_X5_flight x1 σ = some res) : CI l yX5_flight wsX5_flight 1 [.ref (G.2.1 0), .int x1] G σ (fun r u => r = res.1 ∧ u = res.2) := by
  refine x_ent (ret := (some .int)) cX5_flight 3 (by decide) rfl (Nat.le_of_ble_eq_true rfl) ?_
  intro p e s m below meth c ls C hR hS hl
  have C : Cx p s m [.ref (G.2.1 0), .int x1].toArray meth c cX5_flight RX5 wsX5_flight (some .int) 3 G := C
  have hx := C.1
  have hb := C.2.1
  have hl : lv_has ls 3 [(0, .ref (G.2.1 0)), (1, .int x1)] := hl
  have inX5 : ∀ w ∈ u_ws RX5 TX5 13, w ∈ wsX5_flight := fun w h => List.mem_cons_of_mem _ (List.mem_append_left _ (List.mem_append_right _ h))
  have inX0 : ∀ w ∈ u_ws RX0 TX0 14, w ∈ wsX5_flight := fun w h => List.mem_cons_of_mem _ (List.mem_append_right _ h)
  unfold f_X5_flight at hf
  refine lv_iload_n hx hb dX5_flight_0 rfl (lv_at hl 1 rfl) ?_
  refine lv_iconst (v := 0) hx hb dX5_flight_1 (by decide) ?_
  refine lv_bipush (v := 9) hx hb dX5_flight_2 (by decide) ?_
  obtain ⟨r4_, σ4_, hc_4, hf⟩ := bd_some hf
  refine x_csI C hl.1 hR hS (c_X5_within l G x1 0 9 σ _ hc_4) gX5_flight_X5_within rfl hdS_X5_within ⟨Nat.le_of_ble_eq_true rfl, Nat.le_of_ble_eq_true rfl⟩ rfl (As := [.int x1, .int 0, .int 9]) (rest := []) rfl (Nat.le_of_ble_eq_true rfl) ⟨Nat.le_of_ble_eq_true rfl, Nat.le_of_ble_eq_true rfl⟩ dX5_flight_4 (fun r4 σ4 H locs hq_4 hR hS => ?_)
  obtain ⟨rfl, rfl⟩ := hq_4
  refine lv_if_ne (tgt := 15) hx hb dX5_flight_7 (by decide) (fun c_7 => ?_) (fun c_7 => ?_)
  · replace hf := (if_neg c_7).symm.trans hf
    refine lv_aload_n hx hb dX5_flight_15 rfl (lv_at hl 0 rfl) ?_
    refine x_get C hR inX5 0 (by decide) (cz4 rfl) rfl 0 (by decide) 1 rfl (.ref (G.2.1 1)) rfl dX5_flight_16 ?_
    refine x_get C hR inX0 1 (by decide) (cz0 rfl) rfl 0 (by decide) 2 rfl (.int (sI σ4 1 0)) rfl dX5_flight_19 ?_
    refine lv_istore_n (lv' := [(2, .int (sI σ4 1 0)), (0, .ref (G.2.1 0)), (1, .int x1)]) hx hb dX5_flight_22 rfl hl (by decide) rfl (fun ls hl => ?_)
    refine lv_aload_n hx hb dX5_flight_23 rfl (lv_at hl 1 rfl) ?_
    refine x_get C hR inX5 0 (by decide) (cz4 rfl) rfl 0 (by decide) 1 rfl (.ref (G.2.1 1)) rfl dX5_flight_24 ?_
    refine lv_iload_n hx hb dX5_flight_27 rfl (lv_at hl 2 rfl) ?_
    obtain ⟨σ28_, hc_28, hf⟩ := bv_some hf
    refine x_cvV C hl.1 hR hS (c_X0_reset_1 l G x1 σ4 _ hc_28) gX5_flight_X0_reset rfl hdV_X0_reset ⟨Nat.le_of_ble_eq_true rfl, Nat.le_of_ble_eq_true rfl⟩ (by decide) (cz0 rfl) rfl rfl (As := [.int x1]) (rest := []) rfl (Nat.le_of_ble_eq_true rfl) ⟨Nat.le_of_ble_eq_true rfl, Nat.le_of_ble_eq_true rfl⟩ dX5_flight_28 (fun σ28 H locs hq_28 hR hS => ?_)
    subst hq_28
    refine lv_iload_n hx hb dX5_flight_31 rfl (lv_at hl 0 rfl) ?_
    obtain rfl := Option.some.inj hf
    exact x_iret C hR hS dX5_flight_32 ⟨rfl, rfl⟩
  · replace hf := (if_pos c_7).symm.trans hf
    refine lv_aload_n hx hb dX5_flight_10 rfl (lv_at hl 0 rfl) ?_
    obtain ⟨r11_, σ11_, hc_11, hf⟩ := bd_some hf
    refine x_cvI C hl.1 hR hS (c_X5_refusedBad l G σ4 _ hc_11) gX5_flight_X5_refusedBad rfl hdV_X5_refusedBad ⟨Nat.le_of_ble_eq_true rfl, Nat.le_of_ble_eq_true rfl⟩ (by decide) (cz4 rfl) rfl rfl (As := []) (rest := []) rfl (Nat.le_of_ble_eq_true rfl) ⟨Nat.le_of_ble_eq_true rfl, Nat.le_of_ble_eq_true rfl⟩ dX5_flight_11 (fun r11 σ11 H locs hq_11 hR hS => ?_)
    obtain ⟨rfl, rfl⟩ := hq_11
    obtain rfl := Option.some.inj hf
    exact x_iret C hR hS dX5_flight_14 ⟨rfl, rfl⟩
theorem hdV_X5_refusedFull : yX5_refusedFull.cls = RX5 ∧ yX5_refusedFull.cls ≠ "java/lang/invoke/MethodHandle" ∧ yX5_refusedFull.cls ≠ "java/lang/invoke/VarHandle" ∧ (parseMethodDescriptor yX5_refusedFull.desc).map (fun d => d.parameters.length) = some 0 := by decide +kernel
def f_X5_refusedFull (σ : St) : Option (Int32 × St) :=
  some ((-4), (pI σ 0 12 ((sI σ 0 12) + 1)))
set_option maxHeartbeats 4000000 in
set_option maxRecDepth 100000 in
theorem c_X5_refusedFull (l : Launch) (G : GG) (σ : St) (res : Int32 × St) (hf : f_X5_refusedFull σ = some res) : CI l yX5_refusedFull wsX5_refusedFull 0 [.ref (G.2.1 0)] G σ (fun r u => r = res.1 ∧ u = res.2) := by
  refine x_ent (ret := (some .int)) cX5_refusedFull 1 (by decide) rfl (Nat.le_of_ble_eq_true rfl) ?_
  intro p e s m below meth c ls C hR hS hl
  have C : Cx p s m [.ref (G.2.1 0)].toArray meth c cX5_refusedFull RX5 wsX5_refusedFull (some .int) 1 G := C
  have hx := C.1
  have hb := C.2.1
  have hl : lv_has ls 1 [(0, .ref (G.2.1 0))] := hl
  have inX5 : ∀ w ∈ u_ws RX5 TX5 13, w ∈ wsX5_refusedFull := fun w h => List.mem_cons_of_mem _ (List.mem_append_right _ h)
  unfold f_X5_refusedFull at hf
  refine lv_aload_n hx hb dX5_refusedFull_0 rfl (lv_at hl 0 rfl) ?_
  refine lv_dup hx hb dX5_refusedFull_1 rfl ?_
  refine x_get C hR inX5 0 (by decide) (cz4 rfl) rfl 12 (by decide) 1 rfl (.int (sI σ 0 12)) rfl dX5_refusedFull_2 ?_
  refine lv_iconst (v := 1) hx hb dX5_refusedFull_5 (by decide) ?_
  refine lv_iadd hx hb dX5_refusedFull_6 ?_
  refine x_put (τ := (pI σ 0 12 ((sI σ 0 12) + 1))) C hR hS inX5 tyX5 tyX5_ok nmX5 0 (by decide) (cz4 rfl) rfl 12 (by decide) (pfI4_12 rfl) pI_o 1 rfl rfl rfl rfl (Nat.le_of_ble_eq_true rfl) dX5_refusedFull_7 (fun H locs hR hS => ?_)
  refine lv_bipush (v := (-4)) hx hb dX5_refusedFull_10 (by decide) ?_
  obtain rfl := Option.some.inj hf
  exact x_iret C hR hS dX5_refusedFull_12 ⟨rfl, rfl⟩
theorem hdV_X5_lock : yX5_lock.cls = RX5 ∧ yX5_lock.cls ≠ "java/lang/invoke/MethodHandle" ∧ yX5_lock.cls ≠ "java/lang/invoke/VarHandle" ∧ (parseMethodDescriptor yX5_lock.desc).map (fun d => d.parameters.length) = some 3 := by decide +kernel
def f_X5_lock (x1 : Int32) (x2 : Int32) (x3 : Int32) (σ : St) : Option (Int32 × St) :=
  bd (f_X5_within x1 0 5 σ) (fun r3 σ3 => (if r3 = 0 then bd (f_X5_refusedBad σ3) (fun r29 σ29 => some (r29, σ29)) else bd (f_X5_within x2 0 1 σ3) (fun r12 σ12 => (if r12 = 0 then bd (f_X5_refusedBad σ12) (fun r29 σ29 => some (r29, σ29)) else bd (f_X5_within x3 1 20 σ12) (fun r22 σ22 => (if r22 = 0 then bd (f_X5_refusedBad σ22) (fun r29 σ29 => some (r29, σ29)) else (if (sI σ22 1 0) < 8 then bv (f_X0_addLock_1 x1 x2 x3 σ22) (fun σ57 => some ((sI σ57 1 0) - 1, σ57)) else bd (f_X5_refusedFull σ22) (fun r46 σ46 => some (r46, σ46)))))))))
set_option maxHeartbeats 4000000 in
set_option maxRecDepth 100000 in
theorem c_X5_lock (l : Launch) (G : GG) (x1 : Int32) (x2 : Int32) (x3 : Int32) (σ : St) (res : Int32 × St) (hf : f_X5_lock x1 x2 x3 σ = some res) : CI l yX5_lock wsX5_lock 2 [.ref (G.2.1 0), .int x1, .int x2, .int x3] G σ (fun r u => r = res.1 ∧ u = res.2) := by
  refine x_ent (ret := (some .int)) cX5_lock 4 (by decide) rfl (Nat.le_of_ble_eq_true rfl) ?_
  intro p e s m below meth c ls C hR hS hl
  have C : Cx p s m [.ref (G.2.1 0), .int x1, .int x2, .int x3].toArray meth c cX5_lock RX5 wsX5_lock (some .int) 4 G := C
  have hx := C.1
  have hb := C.2.1
  have hl : lv_has ls 4 [(0, .ref (G.2.1 0)), (1, .int x1), (2, .int x2), (3, .int x3)] := hl
  have inX5 : ∀ w ∈ u_ws RX5 TX5 13, w ∈ wsX5_lock := fun w h => List.mem_cons_of_mem _ (List.mem_append_left _ (List.mem_append_left _ (List.mem_append_right _ h)))
  have inX0 : ∀ w ∈ u_ws RX0 TX0 14, w ∈ wsX5_lock := fun w h => List.mem_cons_of_mem _ (List.mem_append_left _ (List.mem_append_right _ h))
  unfold f_X5_lock at hf
  refine lv_iload_n hx hb dX5_lock_0 rfl (lv_at hl 1 rfl) ?_
  refine lv_iconst (v := 0) hx hb dX5_lock_1 (by decide) ?_
  refine lv_iconst (v := 5) hx hb dX5_lock_2 (by decide) ?_
  obtain ⟨r3_, σ3_, hc_3, hf⟩ := bd_some hf
  refine x_csI C hl.1 hR hS (c_X5_within l G x1 0 5 σ _ hc_3) gX5_lock_X5_within rfl hdS_X5_within ⟨Nat.le_of_ble_eq_true rfl, Nat.le_of_ble_eq_true rfl⟩ rfl (As := [.int x1, .int 0, .int 5]) (rest := []) rfl (Nat.le_of_ble_eq_true rfl) ⟨Nat.le_of_ble_eq_true rfl, Nat.le_of_ble_eq_true rfl⟩ dX5_lock_3 (fun r3 σ3 H locs hq_3 hR hS => ?_)
  obtain ⟨rfl, rfl⟩ := hq_3
  refine lv_if_eq (tgt := 28) hx hb dX5_lock_6 (by decide) (fun c_6 => ?_) (fun c_6 => ?_)
  · replace hf := (if_pos c_6).symm.trans hf
    refine lv_aload_n hx hb dX5_lock_28 rfl (lv_at hl 0 rfl) ?_
    obtain ⟨r29_, σ29_, hc_29, hf⟩ := bd_some hf
    refine x_cvI C hl.1 hR hS (c_X5_refusedBad l G σ3 _ hc_29) gX5_lock_X5_refusedBad rfl hdV_X5_refusedBad ⟨Nat.le_of_ble_eq_true rfl, Nat.le_of_ble_eq_true rfl⟩ (by decide) (cz4 rfl) rfl rfl (As := []) (rest := []) rfl (Nat.le_of_ble_eq_true rfl) ⟨Nat.le_of_ble_eq_true rfl, Nat.le_of_ble_eq_true rfl⟩ dX5_lock_29 (fun r29 σ29 H locs hq_29 hR hS => ?_)
    obtain ⟨rfl, rfl⟩ := hq_29
    obtain rfl := Option.some.inj hf
    exact x_iret C hR hS dX5_lock_32 ⟨rfl, rfl⟩
  · replace hf := (if_neg c_6).symm.trans hf
    refine lv_iload_n hx hb dX5_lock_9 rfl (lv_at hl 2 rfl) ?_
    refine lv_iconst (v := 0) hx hb dX5_lock_10 (by decide) ?_
    refine lv_iconst (v := 1) hx hb dX5_lock_11 (by decide) ?_
    obtain ⟨r12_, σ12_, hc_12, hf⟩ := bd_some hf
    refine x_csI C hl.1 hR hS (c_X5_within l G x2 0 1 σ3 _ hc_12) gX5_lock_X5_within rfl hdS_X5_within ⟨Nat.le_of_ble_eq_true rfl, Nat.le_of_ble_eq_true rfl⟩ rfl (As := [.int x2, .int 0, .int 1]) (rest := []) rfl (Nat.le_of_ble_eq_true rfl) ⟨Nat.le_of_ble_eq_true rfl, Nat.le_of_ble_eq_true rfl⟩ dX5_lock_12 (fun r12 σ12 H locs hq_12 hR hS => ?_)
    obtain ⟨rfl, rfl⟩ := hq_12
    refine lv_if_eq (tgt := 28) hx hb dX5_lock_15 (by decide) (fun c_15 => ?_) (fun c_15 => ?_)
    · replace hf := (if_pos c_15).symm.trans hf
      refine lv_aload_n hx hb dX5_lock_28 rfl (lv_at hl 0 rfl) ?_
      obtain ⟨r29_, σ29_, hc_29, hf⟩ := bd_some hf
      refine x_cvI C hl.1 hR hS (c_X5_refusedBad l G σ12 _ hc_29) gX5_lock_X5_refusedBad rfl hdV_X5_refusedBad ⟨Nat.le_of_ble_eq_true rfl, Nat.le_of_ble_eq_true rfl⟩ (by decide) (cz4 rfl) rfl rfl (As := []) (rest := []) rfl (Nat.le_of_ble_eq_true rfl) ⟨Nat.le_of_ble_eq_true rfl, Nat.le_of_ble_eq_true rfl⟩ dX5_lock_29 (fun r29 σ29 H locs hq_29 hR hS => ?_)
      obtain ⟨rfl, rfl⟩ := hq_29
      obtain rfl := Option.some.inj hf
      exact x_iret C hR hS dX5_lock_32 ⟨rfl, rfl⟩
    · replace hf := (if_neg c_15).symm.trans hf
      refine lv_iload_n hx hb dX5_lock_18 rfl (lv_at hl 3 rfl) ?_
      refine lv_iconst (v := 1) hx hb dX5_lock_19 (by decide) ?_
      refine lv_bipush (v := 20) hx hb dX5_lock_20 (by decide) ?_
      obtain ⟨r22_, σ22_, hc_22, hf⟩ := bd_some hf
      refine x_csI C hl.1 hR hS (c_X5_within l G x3 1 20 σ12 _ hc_22) gX5_lock_X5_within rfl hdS_X5_within ⟨Nat.le_of_ble_eq_true rfl, Nat.le_of_ble_eq_true rfl⟩ rfl (As := [.int x3, .int 1, .int 20]) (rest := []) rfl (Nat.le_of_ble_eq_true rfl) ⟨Nat.le_of_ble_eq_true rfl, Nat.le_of_ble_eq_true rfl⟩ dX5_lock_22 (fun r22 σ22 H locs hq_22 hR hS => ?_)
      obtain ⟨rfl, rfl⟩ := hq_22
      refine lv_if_ne (tgt := 33) hx hb dX5_lock_25 (by decide) (fun c_25 => ?_) (fun c_25 => ?_)
      · replace hf := (if_neg c_25).symm.trans hf
        refine lv_aload_n hx hb dX5_lock_33 rfl (lv_at hl 0 rfl) ?_
        refine x_get C hR inX5 0 (by decide) (cz4 rfl) rfl 0 (by decide) 1 rfl (.ref (G.2.1 1)) rfl dX5_lock_34 ?_
        refine x_get C hR inX0 1 (by decide) (cz0 rfl) rfl 0 (by decide) 2 rfl (.int (sI σ22 1 0)) rfl dX5_lock_37 ?_
        refine lv_bipush (v := 8) hx hb dX5_lock_40 (by decide) ?_
        refine lv_icmp_lt (tgt := 50) hx hb dX5_lock_42 (by decide) (fun c_42 => ?_) (fun c_42 => ?_)
        · replace hf := (if_pos c_42).symm.trans hf
          refine lv_aload_n hx hb dX5_lock_50 rfl (lv_at hl 0 rfl) ?_
          refine x_get C hR inX5 0 (by decide) (cz4 rfl) rfl 0 (by decide) 1 rfl (.ref (G.2.1 1)) rfl dX5_lock_51 ?_
          refine lv_iload_n hx hb dX5_lock_54 rfl (lv_at hl 1 rfl) ?_
          refine lv_iload_n hx hb dX5_lock_55 rfl (lv_at hl 2 rfl) ?_
          refine lv_iload_n hx hb dX5_lock_56 rfl (lv_at hl 3 rfl) ?_
          obtain ⟨σ57_, hc_57, hf⟩ := bv_some hf
          refine x_cvV C hl.1 hR hS (c_X0_addLock_1 l G x1 x2 x3 σ22 _ hc_57) gX5_lock_X0_addLock rfl hdV_X0_addLock ⟨Nat.le_of_ble_eq_true rfl, Nat.le_of_ble_eq_true rfl⟩ (by decide) (cz0 rfl) rfl rfl (As := [.int x1, .int x2, .int x3]) (rest := []) rfl (Nat.le_of_ble_eq_true rfl) ⟨Nat.le_of_ble_eq_true rfl, Nat.le_of_ble_eq_true rfl⟩ dX5_lock_57 (fun σ57 H locs hq_57 hR hS => ?_)
          subst hq_57
          refine lv_aload_n hx hb dX5_lock_60 rfl (lv_at hl 0 rfl) ?_
          refine x_get C hR inX5 0 (by decide) (cz4 rfl) rfl 0 (by decide) 1 rfl (.ref (G.2.1 1)) rfl dX5_lock_61 ?_
          refine x_get C hR inX0 1 (by decide) (cz0 rfl) rfl 0 (by decide) 2 rfl (.int (sI σ57 1 0)) rfl dX5_lock_64 ?_
          refine lv_iconst (v := 1) hx hb dX5_lock_67 (by decide) ?_
          refine lv_isub hx hb dX5_lock_68 ?_
          obtain rfl := Option.some.inj hf
          exact x_iret C hR hS dX5_lock_69 ⟨rfl, rfl⟩
        · replace hf := (if_neg c_42).symm.trans hf
          refine lv_aload_n hx hb dX5_lock_45 rfl (lv_at hl 0 rfl) ?_
          obtain ⟨r46_, σ46_, hc_46, hf⟩ := bd_some hf
          refine x_cvI C hl.1 hR hS (c_X5_refusedFull l G σ22 _ hc_46) gX5_lock_X5_refusedFull rfl hdV_X5_refusedFull ⟨Nat.le_of_ble_eq_true rfl, Nat.le_of_ble_eq_true rfl⟩ (by decide) (cz4 rfl) rfl rfl (As := []) (rest := []) rfl (Nat.le_of_ble_eq_true rfl) ⟨Nat.le_of_ble_eq_true rfl, Nat.le_of_ble_eq_true rfl⟩ dX5_lock_46 (fun r46 σ46 H locs hq_46 hR hS => ?_)
          obtain ⟨rfl, rfl⟩ := hq_46
          obtain rfl := Option.some.inj hf
          exact x_iret C hR hS dX5_lock_49 ⟨rfl, rfl⟩
      · replace hf := (if_pos c_25).symm.trans hf
        refine lv_aload_n hx hb dX5_lock_28 rfl (lv_at hl 0 rfl) ?_
        obtain ⟨r29_, σ29_, hc_29, hf⟩ := bd_some hf
        refine x_cvI C hl.1 hR hS (c_X5_refusedBad l G σ22 _ hc_29) gX5_lock_X5_refusedBad rfl hdV_X5_refusedBad ⟨Nat.le_of_ble_eq_true rfl, Nat.le_of_ble_eq_true rfl⟩ (by decide) (cz4 rfl) rfl rfl (As := []) (rest := []) rfl (Nat.le_of_ble_eq_true rfl) ⟨Nat.le_of_ble_eq_true rfl, Nat.le_of_ble_eq_true rfl⟩ dX5_lock_29 (fun r29 σ29 H locs hq_29 hR hS => ?_)
        obtain ⟨rfl, rfl⟩ := hq_29
        obtain rfl := Option.some.inj hf
        exact x_iret C hR hS dX5_lock_32 ⟨rfl, rfl⟩
theorem hdV_X5_strength : yX5_strength.cls = RX5 ∧ yX5_strength.cls ≠ "java/lang/invoke/MethodHandle" ∧ yX5_strength.cls ≠ "java/lang/invoke/VarHandle" ∧ (parseMethodDescriptor yX5_strength.desc).map (fun d => d.parameters.length) = some 1 := by decide +kernel
def f_X5_strength (x1 : Int32) (σ : St) : Option (Int32 × St) :=
  bd (f_X5_within x1 0 9 σ) (fun r4 σ4 => (if r4 = 0 then bd (f_X5_refusedBad σ4) (fun r11 σ11 => some (r11, σ11)) else some (sI σ4 1 1, (pI σ4 1 1 x1))))
set_option maxHeartbeats 4000000 in
set_option maxRecDepth 100000 in
theorem c_X5_strength (l : Launch) (G : GG) (x1 : Int32) (σ : St) (res : Int32 × St) (hf : f_X5_strength x1 σ = some res) : CI l yX5_strength wsX5_strength 1 [.ref (G.2.1 0), .int x1] G σ (fun r u => r = res.1 ∧ u = res.2) := by
  refine x_ent (ret := (some .int)) cX5_strength 3 (by decide) rfl (Nat.le_of_ble_eq_true rfl) ?_
  intro p e s m below meth c ls C hR hS hl
  have C : Cx p s m [.ref (G.2.1 0), .int x1].toArray meth c cX5_strength RX5 wsX5_strength (some .int) 3 G := C
  have hx := C.1
  have hb := C.2.1
  have hl : lv_has ls 3 [(0, .ref (G.2.1 0)), (1, .int x1)] := hl
  have inX5 : ∀ w ∈ u_ws RX5 TX5 13, w ∈ wsX5_strength := fun w h => List.mem_cons_of_mem _ (List.mem_append_left _ (List.mem_append_right _ h))
  have inX0 : ∀ w ∈ u_ws RX0 TX0 14, w ∈ wsX5_strength := fun w h => List.mem_cons_of_mem _ (List.mem_append_right _ h)
  unfold f_X5_strength at hf
  refine lv_iload_n hx hb dX5_strength_0 rfl (lv_at hl 1 rfl) ?_
  refine lv_iconst (v := 0) hx hb dX5_strength_1 (by decide) ?_
  refine lv_bipush (v := 9) hx hb dX5_strength_2 (by decide) ?_
  obtain ⟨r4_, σ4_, hc_4, hf⟩ := bd_some hf
  refine x_csI C hl.1 hR hS (c_X5_within l G x1 0 9 σ _ hc_4) gX5_strength_X5_within rfl hdS_X5_within ⟨Nat.le_of_ble_eq_true rfl, Nat.le_of_ble_eq_true rfl⟩ rfl (As := [.int x1, .int 0, .int 9]) (rest := []) rfl (Nat.le_of_ble_eq_true rfl) ⟨Nat.le_of_ble_eq_true rfl, Nat.le_of_ble_eq_true rfl⟩ dX5_strength_4 (fun r4 σ4 H locs hq_4 hR hS => ?_)
  obtain ⟨rfl, rfl⟩ := hq_4
  refine lv_if_ne (tgt := 15) hx hb dX5_strength_7 (by decide) (fun c_7 => ?_) (fun c_7 => ?_)
  · replace hf := (if_neg c_7).symm.trans hf
    refine lv_aload_n hx hb dX5_strength_15 rfl (lv_at hl 0 rfl) ?_
    refine x_get C hR inX5 0 (by decide) (cz4 rfl) rfl 0 (by decide) 1 rfl (.ref (G.2.1 1)) rfl dX5_strength_16 ?_
    refine x_get C hR inX0 1 (by decide) (cz0 rfl) rfl 1 (by decide) 2 rfl (.int (sI σ4 1 1)) rfl dX5_strength_19 ?_
    refine lv_istore_n (lv' := [(2, .int (sI σ4 1 1)), (0, .ref (G.2.1 0)), (1, .int x1)]) hx hb dX5_strength_22 rfl hl (by decide) rfl (fun ls hl => ?_)
    refine lv_aload_n hx hb dX5_strength_23 rfl (lv_at hl 1 rfl) ?_
    refine x_get C hR inX5 0 (by decide) (cz4 rfl) rfl 0 (by decide) 1 rfl (.ref (G.2.1 1)) rfl dX5_strength_24 ?_
    refine lv_iload_n hx hb dX5_strength_27 rfl (lv_at hl 2 rfl) ?_
    refine x_put (τ := (pI σ4 1 1 x1)) C hR hS inX0 tyX0 tyX0_ok nmX0 1 (by decide) (cz0 rfl) rfl 1 (by decide) (pfI0_1 rfl) pI_o 2 rfl rfl rfl rfl (Nat.le_of_ble_eq_true rfl) dX5_strength_28 (fun H locs hR hS => ?_)
    refine lv_iload_n hx hb dX5_strength_31 rfl (lv_at hl 0 rfl) ?_
    obtain rfl := Option.some.inj hf
    exact x_iret C hR hS dX5_strength_32 ⟨rfl, rfl⟩
  · replace hf := (if_pos c_7).symm.trans hf
    refine lv_aload_n hx hb dX5_strength_10 rfl (lv_at hl 0 rfl) ?_
    obtain ⟨r11_, σ11_, hc_11, hf⟩ := bd_some hf
    refine x_cvI C hl.1 hR hS (c_X5_refusedBad l G σ4 _ hc_11) gX5_strength_X5_refusedBad rfl hdV_X5_refusedBad ⟨Nat.le_of_ble_eq_true rfl, Nat.le_of_ble_eq_true rfl⟩ (by decide) (cz4 rfl) rfl rfl (As := []) (rest := []) rfl (Nat.le_of_ble_eq_true rfl) ⟨Nat.le_of_ble_eq_true rfl, Nat.le_of_ble_eq_true rfl⟩ dX5_strength_11 (fun r11 σ11 H locs hq_11 hR hS => ?_)
    obtain ⟨rfl, rfl⟩ := hq_11
    obtain rfl := Option.some.inj hf
    exact x_iret C hR hS dX5_strength_14 ⟨rfl, rfl⟩
theorem hdV_X5_turn : yX5_turn.cls = RX5 ∧ yX5_turn.cls ≠ "java/lang/invoke/MethodHandle" ∧ yX5_turn.cls ≠ "java/lang/invoke/VarHandle" ∧ (parseMethodDescriptor yX5_turn.desc).map (fun d => d.parameters.length) = some 1 := by decide +kernel
def f_X5_turn (x1 : Int32) (σ : St) : Option (Int32 × St) :=
  bd (f_X0_has_1 x1 σ) (fun r5 σ5 => (if r5 = 0 then bd (f_X5_refusedBad σ5) (fun r12 σ12 => some (r12, σ12)) else bv (f_X0_remember_1 σ5) (fun σ20 => bd (f_X0_standsOf_1 x1 (pI σ20 1 2 ((sI σ20 1 2) ^^^ (1 <<< (x1 &&& 31))))) (fun r46 σ46 => some (r46, σ46)))))
set_option maxHeartbeats 4000000 in
set_option maxRecDepth 100000 in
theorem c_X5_turn (l : Launch) (G : GG) (x1 : Int32) (σ : St) (res : Int32 × St) (hf : f_X5_turn x1 σ = some res) : CI l yX5_turn wsX5_turn 2 [.ref (G.2.1 0), .int x1] G σ (fun r u => r = res.1 ∧ u = res.2) := by
  refine x_ent (ret := (some .int)) cX5_turn 2 (by decide) rfl (Nat.le_of_ble_eq_true rfl) ?_
  intro p e s m below meth c ls C hR hS hl
  have C : Cx p s m [.ref (G.2.1 0), .int x1].toArray meth c cX5_turn RX5 wsX5_turn (some .int) 2 G := C
  have hx := C.1
  have hb := C.2.1
  have hl : lv_has ls 2 [(0, .ref (G.2.1 0)), (1, .int x1)] := hl
  have inX5 : ∀ w ∈ u_ws RX5 TX5 13, w ∈ wsX5_turn := fun w h => List.mem_cons_of_mem _ (List.mem_append_left _ (List.mem_append_left _ (List.mem_append_right _ h)))
  have inX0 : ∀ w ∈ u_ws RX0 TX0 14, w ∈ wsX5_turn := fun w h => List.mem_cons_of_mem _ (List.mem_append_left _ (List.mem_append_right _ h))
  unfold f_X5_turn at hf
  refine lv_aload_n hx hb dX5_turn_0 rfl (lv_at hl 0 rfl) ?_
  refine x_get C hR inX5 0 (by decide) (cz4 rfl) rfl 0 (by decide) 1 rfl (.ref (G.2.1 1)) rfl dX5_turn_1 ?_
  refine lv_iload_n hx hb dX5_turn_4 rfl (lv_at hl 1 rfl) ?_
  obtain ⟨r5_, σ5_, hc_5, hf⟩ := bd_some hf
  refine x_cvI C hl.1 hR hS (c_X0_has_1 l G x1 σ _ hc_5) gX5_turn_X0_has rfl hdV_X0_has ⟨Nat.le_of_ble_eq_true rfl, Nat.le_of_ble_eq_true rfl⟩ (by decide) (cz0 rfl) rfl rfl (As := [.int x1]) (rest := []) rfl (Nat.le_of_ble_eq_true rfl) ⟨Nat.le_of_ble_eq_true rfl, Nat.le_of_ble_eq_true rfl⟩ dX5_turn_5 (fun r5 σ5 H locs hq_5 hR hS => ?_)
  obtain ⟨rfl, rfl⟩ := hq_5
  refine lv_if_ne (tgt := 16) hx hb dX5_turn_8 (by decide) (fun c_8 => ?_) (fun c_8 => ?_)
  · replace hf := (if_neg c_8).symm.trans hf
    refine lv_aload_n hx hb dX5_turn_16 rfl (lv_at hl 0 rfl) ?_
    refine x_get C hR inX5 0 (by decide) (cz4 rfl) rfl 0 (by decide) 1 rfl (.ref (G.2.1 1)) rfl dX5_turn_17 ?_
    obtain ⟨σ20_, hc_20, hf⟩ := bv_some hf
    refine x_cvV C hl.1 hR hS (c_X0_remember_1 l G σ5 _ hc_20) gX5_turn_X0_remember rfl hdV_X0_remember ⟨Nat.le_of_ble_eq_true rfl, Nat.le_of_ble_eq_true rfl⟩ (by decide) (cz0 rfl) rfl rfl (As := []) (rest := []) rfl (Nat.le_of_ble_eq_true rfl) ⟨Nat.le_of_ble_eq_true rfl, Nat.le_of_ble_eq_true rfl⟩ dX5_turn_20 (fun σ20 H locs hq_20 hR hS => ?_)
    subst hq_20
    refine lv_aload_n hx hb dX5_turn_23 rfl (lv_at hl 0 rfl) ?_
    refine x_get C hR inX5 0 (by decide) (cz4 rfl) rfl 0 (by decide) 1 rfl (.ref (G.2.1 1)) rfl dX5_turn_24 ?_
    refine lv_aload_n hx hb dX5_turn_27 rfl (lv_at hl 0 rfl) ?_
    refine x_get C hR inX5 0 (by decide) (cz4 rfl) rfl 0 (by decide) 1 rfl (.ref (G.2.1 1)) rfl dX5_turn_28 ?_
    refine x_get C hR inX0 1 (by decide) (cz0 rfl) rfl 2 (by decide) 2 rfl (.int (sI σ20 1 2)) rfl dX5_turn_31 ?_
    refine lv_iconst (v := 1) hx hb dX5_turn_34 (by decide) ?_
    refine lv_iload_n hx hb dX5_turn_35 rfl (lv_at hl 1 rfl) ?_
    refine lv_ishl hx hb dX5_turn_36 ?_
    refine lv_ixor hx hb dX5_turn_37 ?_
    refine x_put (τ := (pI σ20 1 2 ((sI σ20 1 2) ^^^ (1 <<< (x1 &&& 31))))) C hR hS inX0 tyX0 tyX0_ok nmX0 1 (by decide) (cz0 rfl) rfl 2 (by decide) (pfI0_2 rfl) pI_o 2 rfl rfl rfl rfl (Nat.le_of_ble_eq_true rfl) dX5_turn_38 (fun H locs hR hS => ?_)
    refine lv_aload_n hx hb dX5_turn_41 rfl (lv_at hl 0 rfl) ?_
    refine x_get C hR inX5 0 (by decide) (cz4 rfl) rfl 0 (by decide) 1 rfl (.ref (G.2.1 1)) rfl dX5_turn_42 ?_
    refine lv_iload_n hx hb dX5_turn_45 rfl (lv_at hl 1 rfl) ?_
    obtain ⟨r46_, σ46_, hc_46, hf⟩ := bd_some hf
    refine x_cvI C hl.1 hR hS (c_X0_standsOf_1 l G x1 (pI σ20 1 2 ((sI σ20 1 2) ^^^ (1 <<< (x1 &&& 31)))) _ hc_46) gX5_turn_X0_standsOf rfl hdV_X0_standsOf ⟨Nat.le_of_ble_eq_true rfl, Nat.le_of_ble_eq_true rfl⟩ (by decide) (cz0 rfl) rfl rfl (As := [.int x1]) (rest := []) rfl (Nat.le_of_ble_eq_true rfl) ⟨Nat.le_of_ble_eq_true rfl, Nat.le_of_ble_eq_true rfl⟩ dX5_turn_46 (fun r46 σ46 H locs hq_46 hR hS => ?_)
    obtain ⟨rfl, rfl⟩ := hq_46
    obtain rfl := Option.some.inj hf
    exact x_iret C hR hS dX5_turn_49 ⟨rfl, rfl⟩
  · replace hf := (if_pos c_8).symm.trans hf
    refine lv_aload_n hx hb dX5_turn_11 rfl (lv_at hl 0 rfl) ?_
    obtain ⟨r12_, σ12_, hc_12, hf⟩ := bd_some hf
    refine x_cvI C hl.1 hR hS (c_X5_refusedBad l G σ5 _ hc_12) gX5_turn_X5_refusedBad rfl hdV_X5_refusedBad ⟨Nat.le_of_ble_eq_true rfl, Nat.le_of_ble_eq_true rfl⟩ (by decide) (cz4 rfl) rfl rfl (As := []) (rest := []) rfl (Nat.le_of_ble_eq_true rfl) ⟨Nat.le_of_ble_eq_true rfl, Nat.le_of_ble_eq_true rfl⟩ dX5_turn_12 (fun r12 σ12 H locs hq_12 hR hS => ?_)
    obtain ⟨rfl, rfl⟩ := hq_12
    obtain rfl := Option.some.inj hf
    exact x_iret C hR hS dX5_turn_15 ⟨rfl, rfl⟩
theorem hdV_X5_type : yX5_type.cls = RX5 ∧ yX5_type.cls ≠ "java/lang/invoke/MethodHandle" ∧ yX5_type.cls ≠ "java/lang/invoke/VarHandle" ∧ (parseMethodDescriptor yX5_type.desc).map (fun d => d.parameters.length) = some 1 := by decide +kernel
def f_X5_type (x1 : Int32) (σ : St) : Option (Int32 × St) :=
  bd (f_X5_within x1 0 127 σ) (fun r4 σ4 => (if r4 = 0 then bd (f_X5_refusedBad σ4) (fun r11 σ11 => some (r11, σ11)) else (if (sI σ4 72 0) < 150 then bv (f_X3_append x1 σ4) (fun σ38 => some (sI σ38 72 0, σ38)) else bd (f_X5_refusedFull σ4) (fun r29 σ29 => some (r29, σ29)))))
set_option maxHeartbeats 4000000 in
set_option maxRecDepth 100000 in
theorem c_X5_type (l : Launch) (G : GG) (x1 : Int32) (σ : St) (res : Int32 × St) (hf : f_X5_type x1 σ = some res) : CI l yX5_type wsX5_type 2 [.ref (G.2.1 0), .int x1] G σ (fun r u => r = res.1 ∧ u = res.2) := by
  refine x_ent (ret := (some .int)) cX5_type 2 (by decide) rfl (Nat.le_of_ble_eq_true rfl) ?_
  intro p e s m below meth c ls C hR hS hl
  have C : Cx p s m [.ref (G.2.1 0), .int x1].toArray meth c cX5_type RX5 wsX5_type (some .int) 2 G := C
  have hx := C.1
  have hb := C.2.1
  have hl : lv_has ls 2 [(0, .ref (G.2.1 0)), (1, .int x1)] := hl
  have inX5 : ∀ w ∈ u_ws RX5 TX5 13, w ∈ wsX5_type := fun w h => List.mem_cons_of_mem _ (List.mem_append_left _ (List.mem_append_left _ (List.mem_append_right _ h)))
  have inX3 : ∀ w ∈ u_ws RX3 TX3 5, w ∈ wsX5_type := fun w h => List.mem_cons_of_mem _ (List.mem_append_left _ (List.mem_append_right _ h))
  unfold f_X5_type at hf
  refine lv_iload_n hx hb dX5_type_0 rfl (lv_at hl 1 rfl) ?_
  refine lv_iconst (v := 0) hx hb dX5_type_1 (by decide) ?_
  refine lv_bipush (v := 127) hx hb dX5_type_2 (by decide) ?_
  obtain ⟨r4_, σ4_, hc_4, hf⟩ := bd_some hf
  refine x_csI C hl.1 hR hS (c_X5_within l G x1 0 127 σ _ hc_4) gX5_type_X5_within rfl hdS_X5_within ⟨Nat.le_of_ble_eq_true rfl, Nat.le_of_ble_eq_true rfl⟩ rfl (As := [.int x1, .int 0, .int 127]) (rest := []) rfl (Nat.le_of_ble_eq_true rfl) ⟨Nat.le_of_ble_eq_true rfl, Nat.le_of_ble_eq_true rfl⟩ dX5_type_4 (fun r4 σ4 H locs hq_4 hR hS => ?_)
  obtain ⟨rfl, rfl⟩ := hq_4
  refine lv_if_ne (tgt := 15) hx hb dX5_type_7 (by decide) (fun c_7 => ?_) (fun c_7 => ?_)
  · replace hf := (if_neg c_7).symm.trans hf
    refine lv_aload_n hx hb dX5_type_15 rfl (lv_at hl 0 rfl) ?_
    refine x_get C hR inX5 0 (by decide) (cz4 rfl) rfl 5 (by decide) 1 rfl (.ref (G.2.1 72)) rfl dX5_type_16 ?_
    refine x_get C hR inX3 72 (by decide) (cz2 rfl) rfl 0 (by decide) 2 rfl (.int (sI σ4 72 0)) rfl dX5_type_19 ?_
    refine lv_sipush (v := 150) hx hb dX5_type_22 (by decide) ?_
    refine lv_icmp_lt (tgt := 33) hx hb dX5_type_25 (by decide) (fun c_25 => ?_) (fun c_25 => ?_)
    · replace hf := (if_pos c_25).symm.trans hf
      refine lv_aload_n hx hb dX5_type_33 rfl (lv_at hl 0 rfl) ?_
      refine x_get C hR inX5 0 (by decide) (cz4 rfl) rfl 5 (by decide) 1 rfl (.ref (G.2.1 72)) rfl dX5_type_34 ?_
      refine lv_iload_n hx hb dX5_type_37 rfl (lv_at hl 1 rfl) ?_
      obtain ⟨σ38_, hc_38, hf⟩ := bv_some hf
      refine x_cvV C hl.1 hR hS (c_X3_append l G x1 σ4 _ hc_38) gX5_type_X3_append rfl hdV_X3_append ⟨Nat.le_of_ble_eq_true rfl, Nat.le_of_ble_eq_true rfl⟩ (by decide) (cz2 rfl) rfl rfl (As := [.int x1]) (rest := []) rfl (Nat.le_of_ble_eq_true rfl) ⟨Nat.le_of_ble_eq_true rfl, Nat.le_of_ble_eq_true rfl⟩ dX5_type_38 (fun σ38 H locs hq_38 hR hS => ?_)
      subst hq_38
      refine lv_aload_n hx hb dX5_type_41 rfl (lv_at hl 0 rfl) ?_
      refine x_get C hR inX5 0 (by decide) (cz4 rfl) rfl 5 (by decide) 1 rfl (.ref (G.2.1 72)) rfl dX5_type_42 ?_
      refine x_get C hR inX3 72 (by decide) (cz2 rfl) rfl 0 (by decide) 2 rfl (.int (sI σ38 72 0)) rfl dX5_type_45 ?_
      obtain rfl := Option.some.inj hf
      exact x_iret C hR hS dX5_type_48 ⟨rfl, rfl⟩
    · replace hf := (if_neg c_25).symm.trans hf
      refine lv_aload_n hx hb dX5_type_28 rfl (lv_at hl 0 rfl) ?_
      obtain ⟨r29_, σ29_, hc_29, hf⟩ := bd_some hf
      refine x_cvI C hl.1 hR hS (c_X5_refusedFull l G σ4 _ hc_29) gX5_type_X5_refusedFull rfl hdV_X5_refusedFull ⟨Nat.le_of_ble_eq_true rfl, Nat.le_of_ble_eq_true rfl⟩ (by decide) (cz4 rfl) rfl rfl (As := []) (rest := []) rfl (Nat.le_of_ble_eq_true rfl) ⟨Nat.le_of_ble_eq_true rfl, Nat.le_of_ble_eq_true rfl⟩ dX5_type_29 (fun r29 σ29 H locs hq_29 hR hS => ?_)
      obtain ⟨rfl, rfl⟩ := hq_29
      obtain rfl := Option.some.inj hf
      exact x_iret C hR hS dX5_type_32 ⟨rfl, rfl⟩
  · replace hf := (if_pos c_7).symm.trans hf
    refine lv_aload_n hx hb dX5_type_10 rfl (lv_at hl 0 rfl) ?_
    obtain ⟨r11_, σ11_, hc_11, hf⟩ := bd_some hf
    refine x_cvI C hl.1 hR hS (c_X5_refusedBad l G σ4 _ hc_11) gX5_type_X5_refusedBad rfl hdV_X5_refusedBad ⟨Nat.le_of_ble_eq_true rfl, Nat.le_of_ble_eq_true rfl⟩ (by decide) (cz4 rfl) rfl rfl (As := []) (rest := []) rfl (Nat.le_of_ble_eq_true rfl) ⟨Nat.le_of_ble_eq_true rfl, Nat.le_of_ble_eq_true rfl⟩ dX5_type_11 (fun r11 σ11 H locs hq_11 hR hS => ?_)
    obtain ⟨rfl, rfl⟩ := hq_11
    obtain rfl := Option.some.inj hf
    exact x_iret C hR hS dX5_type_14 ⟨rfl, rfl⟩
theorem hdV_X5_clear : yX5_clear.cls = RX5 ∧ yX5_clear.cls ≠ "java/lang/invoke/MethodHandle" ∧ yX5_clear.cls ≠ "java/lang/invoke/VarHandle" ∧ (parseMethodDescriptor yX5_clear.desc).map (fun d => d.parameters.length) = some 0 := by decide +kernel
def f_X5_clear (σ : St) : Option (Int32 × St) :=
  some (sI σ 72 0, (pI σ 72 0 0))
set_option maxHeartbeats 4000000 in
set_option maxRecDepth 100000 in
theorem c_X5_clear (l : Launch) (G : GG) (σ : St) (res : Int32 × St) (hf : f_X5_clear σ = some res) : CI l yX5_clear wsX5_clear 0 [.ref (G.2.1 0)] G σ (fun r u => r = res.1 ∧ u = res.2) := by
  refine x_ent (ret := (some .int)) cX5_clear 2 (by decide) rfl (Nat.le_of_ble_eq_true rfl) ?_
  intro p e s m below meth c ls C hR hS hl
  have C : Cx p s m [.ref (G.2.1 0)].toArray meth c cX5_clear RX5 wsX5_clear (some .int) 2 G := C
  have hx := C.1
  have hb := C.2.1
  have hl : lv_has ls 2 [(0, .ref (G.2.1 0))] := hl
  have inX5 : ∀ w ∈ u_ws RX5 TX5 13, w ∈ wsX5_clear := fun w h => List.mem_cons_of_mem _ (List.mem_append_left _ (List.mem_append_right _ h))
  have inX3 : ∀ w ∈ u_ws RX3 TX3 5, w ∈ wsX5_clear := fun w h => List.mem_cons_of_mem _ (List.mem_append_right _ h)
  unfold f_X5_clear at hf
  refine lv_aload_n hx hb dX5_clear_0 rfl (lv_at hl 0 rfl) ?_
  refine x_get C hR inX5 0 (by decide) (cz4 rfl) rfl 5 (by decide) 1 rfl (.ref (G.2.1 72)) rfl dX5_clear_1 ?_
  refine x_get C hR inX3 72 (by decide) (cz2 rfl) rfl 0 (by decide) 2 rfl (.int (sI σ 72 0)) rfl dX5_clear_4 ?_
  refine lv_istore_n (lv' := [(1, .int (sI σ 72 0)), (0, .ref (G.2.1 0))]) hx hb dX5_clear_7 rfl hl (by decide) rfl (fun ls hl => ?_)
  refine lv_aload_n hx hb dX5_clear_8 rfl (lv_at hl 1 rfl) ?_
  refine x_get C hR inX5 0 (by decide) (cz4 rfl) rfl 5 (by decide) 1 rfl (.ref (G.2.1 72)) rfl dX5_clear_9 ?_
  refine lv_iconst (v := 0) hx hb dX5_clear_12 (by decide) ?_
  refine x_put (τ := (pI σ 72 0 0)) C hR hS inX3 tyX3 tyX3_ok nmX3 72 (by decide) (cz2 rfl) rfl 0 (by decide) (pfI2_0 rfl) pI_o 2 rfl rfl rfl rfl (Nat.le_of_ble_eq_true rfl) dX5_clear_13 (fun H locs hR hS => ?_)
  refine lv_iload_n hx hb dX5_clear_16 rfl (lv_at hl 0 rfl) ?_
  obtain rfl := Option.some.inj hf
  exact x_iret C hR hS dX5_clear_17 ⟨rfl, rfl⟩
theorem hdV_X5_read : yX5_read.cls = RX5 ∧ yX5_read.cls ≠ "java/lang/invoke/MethodHandle" ∧ yX5_read.cls ≠ "java/lang/invoke/VarHandle" ∧ (parseMethodDescriptor yX5_read.desc).map (fun d => d.parameters.length) = some 0 := by decide +kernel
def f_X5_read (σ : St) : Option (Int32 × St) :=
  bd (f_X3_faultInto σ) (fun r8 σ8 => (if r8 = (-1) then bv (f_X0_copyFrom_1_46 σ8) (fun σ30 => some (1 + (sI σ30 1 0), σ30)) else some ((-10) - r8, σ8)))
set_option maxHeartbeats 4000000 in
set_option maxRecDepth 100000 in
theorem c_X5_read (l : Launch) (G : GG) (σ : St) (res : Int32 × St) (hf : f_X5_read σ = some res) : CI l yX5_read wsX5_read 7 [.ref (G.2.1 0)] G σ (fun r u => r = res.1 ∧ u = res.2) := by
  refine x_ent (ret := (some .int)) cX5_read 2 (by decide) rfl (Nat.le_of_ble_eq_true rfl) ?_
  intro p e s m below meth c ls C hR hS hl
  have C : Cx p s m [.ref (G.2.1 0)].toArray meth c cX5_read RX5 wsX5_read (some .int) 2 G := C
  have hx := C.1
  have hb := C.2.1
  have hl : lv_has ls 2 [(0, .ref (G.2.1 0))] := hl
  have inX5 : ∀ w ∈ u_ws RX5 TX5 13, w ∈ wsX5_read := fun w h => List.mem_cons_of_mem _ (List.mem_append_left _ (List.mem_append_left _ (List.mem_append_left _ (List.mem_append_right _ h))))
  have inX0 : ∀ w ∈ u_ws RX0 TX0 14, w ∈ wsX5_read := fun w h => List.mem_cons_of_mem _ (List.mem_append_left _ (List.mem_append_left _ (List.mem_append_right _ h)))
  unfold f_X5_read at hf
  refine lv_aload_n hx hb dX5_read_0 rfl (lv_at hl 0 rfl) ?_
  refine x_get C hR inX5 0 (by decide) (cz4 rfl) rfl 5 (by decide) 1 rfl (.ref (G.2.1 72)) rfl dX5_read_1 ?_
  refine lv_aload_n hx hb dX5_read_4 rfl (lv_at hl 0 rfl) ?_
  refine x_get C hR inX5 0 (by decide) (cz4 rfl) rfl 3 (by decide) 2 rfl (.ref (G.2.1 46)) rfl dX5_read_5 ?_
  obtain ⟨r8_, σ8_, hc_8, hf⟩ := bd_some hf
  refine x_cvI C hl.1 hR hS (c_X3_faultInto l G σ _ hc_8) gX5_read_X3_faultInto rfl hdV_X3_faultInto ⟨Nat.le_of_ble_eq_true rfl, Nat.le_of_ble_eq_true rfl⟩ (by decide) (cz2 rfl) rfl rfl (As := [.ref (G.2.1 46)]) (rest := []) rfl (Nat.le_of_ble_eq_true rfl) ⟨Nat.le_of_ble_eq_true rfl, Nat.le_of_ble_eq_true rfl⟩ dX5_read_8 (fun r8 σ8 H locs hq_8 hR hS => ?_)
  obtain ⟨rfl, rfl⟩ := hq_8
  refine lv_istore_n (lv' := [(1, .int r8), (0, .ref (G.2.1 0))]) hx hb dX5_read_11 rfl hl (by decide) rfl (fun ls hl => ?_)
  refine lv_iload_n hx hb dX5_read_12 rfl (lv_at hl 0 rfl) ?_
  refine lv_iconst (v := (-1)) hx hb dX5_read_13 (by decide) ?_
  refine lv_icmp_eq (tgt := 22) hx hb dX5_read_14 (by decide) (fun c_14 => ?_) (fun c_14 => ?_)
  · replace hf := (if_pos c_14).symm.trans hf
    refine lv_aload_n hx hb dX5_read_22 rfl (lv_at hl 1 rfl) ?_
    refine x_get C hR inX5 0 (by decide) (cz4 rfl) rfl 0 (by decide) 3 rfl (.ref (G.2.1 1)) rfl dX5_read_23 ?_
    refine lv_aload_n hx hb dX5_read_26 rfl (lv_at hl 1 rfl) ?_
    refine x_get C hR inX5 0 (by decide) (cz4 rfl) rfl 3 (by decide) 2 rfl (.ref (G.2.1 46)) rfl dX5_read_27 ?_
    obtain ⟨σ30_, hc_30, hf⟩ := bv_some hf
    refine x_cvV C hl.1 hR hS (c_X0_copyFrom_1_46 l G σ8 _ hc_30) gX5_read_X0_copyFrom rfl hdV_X0_copyFrom ⟨Nat.le_of_ble_eq_true rfl, Nat.le_of_ble_eq_true rfl⟩ (by decide) (cz0 rfl) rfl rfl (As := [.ref (G.2.1 46)]) (rest := []) rfl (Nat.le_of_ble_eq_true rfl) ⟨Nat.le_of_ble_eq_true rfl, Nat.le_of_ble_eq_true rfl⟩ dX5_read_30 (fun σ30 H locs hq_30 hR hS => ?_)
    subst hq_30
    refine lv_iconst (v := 1) hx hb dX5_read_33 (by decide) ?_
    refine lv_aload_n hx hb dX5_read_34 rfl (lv_at hl 1 rfl) ?_
    refine x_get C hR inX5 0 (by decide) (cz4 rfl) rfl 0 (by decide) 3 rfl (.ref (G.2.1 1)) rfl dX5_read_35 ?_
    refine x_get C hR inX0 1 (by decide) (cz0 rfl) rfl 0 (by decide) 4 rfl (.int (sI σ30 1 0)) rfl dX5_read_38 ?_
    refine lv_iadd hx hb dX5_read_41 ?_
    obtain rfl := Option.some.inj hf
    exact x_iret C hR hS dX5_read_42 ⟨rfl, rfl⟩
  · replace hf := (if_neg c_14).symm.trans hf
    refine lv_bipush (v := (-10)) hx hb dX5_read_17 (by decide) ?_
    refine lv_iload_n hx hb dX5_read_19 rfl (lv_at hl 0 rfl) ?_
    refine lv_isub hx hb dX5_read_20 ?_
    obtain rfl := Option.some.inj hf
    exact x_iret C hR hS dX5_read_21 ⟨rfl, rfl⟩
theorem hdS_X5_isRun : yX5_isRun.cls ≠ "java/lang/invoke/MethodHandle" ∧ yX5_isRun.cls ≠ "java/lang/invoke/VarHandle" ∧ (parseMethodDescriptor yX5_isRun.desc).map (fun d => d.parameters.length) = some 4 := by decide +kernel
def f_X5_isRun (x0 : Int32) (x1 : Int32) (x2 : Int32) (x3 : Int32) (σ : St) : Option (Int32 × St) :=
  bd (f_X5_within x0 0 1 σ) (fun r3 σ3 => (if r3 = 0 then some (0, σ3) else bd (f_X5_within x1 0 2 σ3) (fun r12 σ12 => (if r12 = 0 then some (0, σ12) else bd (f_X5_within x2 1 9 σ12) (fun r22 σ22 => (if r22 = 0 then some (0, σ22) else bd (f_X5_within x3 0 1 σ22) (fun r31 σ31 => (if r31 = 0 then some (0, σ31) else some (1, σ31)))))))))
set_option maxHeartbeats 4000000 in
set_option maxRecDepth 100000 in
theorem c_X5_isRun (l : Launch) (G : GG) (x0 : Int32) (x1 : Int32) (x2 : Int32) (x3 : Int32) (σ : St) (res : Int32 × St) (hf : f_X5_isRun x0 x1 x2 x3 σ = some res) : CI l yX5_isRun wsX5_isRun 1 [.int x0, .int x1, .int x2, .int x3] G σ (fun r u => r = res.1 ∧ u = res.2) := by
  refine x_ent (ret := (some .boolean)) cX5_isRun 4 (by decide) rfl (Nat.le_of_ble_eq_true rfl) ?_
  intro p e s m below meth c ls C hR hS hl
  have C : Cx p s m [.int x0, .int x1, .int x2, .int x3].toArray meth c cX5_isRun RX5 wsX5_isRun (some .boolean) 4 G := C
  have hx := C.1
  have hb := C.2.1
  have hl : lv_has ls 4 [(0, .int x0), (1, .int x1), (2, .int x2), (3, .int x3)] := hl
  unfold f_X5_isRun at hf
  refine lv_iload_n hx hb dX5_isRun_0 rfl (lv_at hl 0 rfl) ?_
  refine lv_iconst (v := 0) hx hb dX5_isRun_1 (by decide) ?_
  refine lv_iconst (v := 1) hx hb dX5_isRun_2 (by decide) ?_
  obtain ⟨r3_, σ3_, hc_3, hf⟩ := bd_some hf
  refine x_csI C hl.1 hR hS (c_X5_within l G x0 0 1 σ _ hc_3) gX5_isRun_X5_within rfl hdS_X5_within ⟨Nat.le_of_ble_eq_true rfl, Nat.le_of_ble_eq_true rfl⟩ rfl (As := [.int x0, .int 0, .int 1]) (rest := []) rfl (Nat.le_of_ble_eq_true rfl) ⟨Nat.le_of_ble_eq_true rfl, Nat.le_of_ble_eq_true rfl⟩ dX5_isRun_3 (fun r3 σ3 H locs hq_3 hR hS => ?_)
  obtain ⟨rfl, rfl⟩ := hq_3
  refine lv_if_eq (tgt := 41) hx hb dX5_isRun_6 (by decide) (fun c_6 => ?_) (fun c_6 => ?_)
  · replace hf := (if_pos c_6).symm.trans hf
    refine lv_iconst (v := 0) hx hb dX5_isRun_41 (by decide) ?_
    obtain rfl := Option.some.inj hf
    exact x_zret C hR hS dX5_isRun_42 (by first | rfl | decide | (simp only []; split <;> rfl)) ⟨rfl, rfl⟩
  · replace hf := (if_neg c_6).symm.trans hf
    refine lv_iload_n hx hb dX5_isRun_9 rfl (lv_at hl 1 rfl) ?_
    refine lv_iconst (v := 0) hx hb dX5_isRun_10 (by decide) ?_
    refine lv_iconst (v := 2) hx hb dX5_isRun_11 (by decide) ?_
    obtain ⟨r12_, σ12_, hc_12, hf⟩ := bd_some hf
    refine x_csI C hl.1 hR hS (c_X5_within l G x1 0 2 σ3 _ hc_12) gX5_isRun_X5_within rfl hdS_X5_within ⟨Nat.le_of_ble_eq_true rfl, Nat.le_of_ble_eq_true rfl⟩ rfl (As := [.int x1, .int 0, .int 2]) (rest := []) rfl (Nat.le_of_ble_eq_true rfl) ⟨Nat.le_of_ble_eq_true rfl, Nat.le_of_ble_eq_true rfl⟩ dX5_isRun_12 (fun r12 σ12 H locs hq_12 hR hS => ?_)
    obtain ⟨rfl, rfl⟩ := hq_12
    refine lv_if_eq (tgt := 41) hx hb dX5_isRun_15 (by decide) (fun c_15 => ?_) (fun c_15 => ?_)
    · replace hf := (if_pos c_15).symm.trans hf
      refine lv_iconst (v := 0) hx hb dX5_isRun_41 (by decide) ?_
      obtain rfl := Option.some.inj hf
      exact x_zret C hR hS dX5_isRun_42 (by first | rfl | decide | (simp only []; split <;> rfl)) ⟨rfl, rfl⟩
    · replace hf := (if_neg c_15).symm.trans hf
      refine lv_iload_n hx hb dX5_isRun_18 rfl (lv_at hl 2 rfl) ?_
      refine lv_iconst (v := 1) hx hb dX5_isRun_19 (by decide) ?_
      refine lv_bipush (v := 9) hx hb dX5_isRun_20 (by decide) ?_
      obtain ⟨r22_, σ22_, hc_22, hf⟩ := bd_some hf
      refine x_csI C hl.1 hR hS (c_X5_within l G x2 1 9 σ12 _ hc_22) gX5_isRun_X5_within rfl hdS_X5_within ⟨Nat.le_of_ble_eq_true rfl, Nat.le_of_ble_eq_true rfl⟩ rfl (As := [.int x2, .int 1, .int 9]) (rest := []) rfl (Nat.le_of_ble_eq_true rfl) ⟨Nat.le_of_ble_eq_true rfl, Nat.le_of_ble_eq_true rfl⟩ dX5_isRun_22 (fun r22 σ22 H locs hq_22 hR hS => ?_)
      obtain ⟨rfl, rfl⟩ := hq_22
      refine lv_if_eq (tgt := 41) hx hb dX5_isRun_25 (by decide) (fun c_25 => ?_) (fun c_25 => ?_)
      · replace hf := (if_pos c_25).symm.trans hf
        refine lv_iconst (v := 0) hx hb dX5_isRun_41 (by decide) ?_
        obtain rfl := Option.some.inj hf
        exact x_zret C hR hS dX5_isRun_42 (by first | rfl | decide | (simp only []; split <;> rfl)) ⟨rfl, rfl⟩
      · replace hf := (if_neg c_25).symm.trans hf
        refine lv_iload_n hx hb dX5_isRun_28 rfl (lv_at hl 3 rfl) ?_
        refine lv_iconst (v := 0) hx hb dX5_isRun_29 (by decide) ?_
        refine lv_iconst (v := 1) hx hb dX5_isRun_30 (by decide) ?_
        obtain ⟨r31_, σ31_, hc_31, hf⟩ := bd_some hf
        refine x_csI C hl.1 hR hS (c_X5_within l G x3 0 1 σ22 _ hc_31) gX5_isRun_X5_within rfl hdS_X5_within ⟨Nat.le_of_ble_eq_true rfl, Nat.le_of_ble_eq_true rfl⟩ rfl (As := [.int x3, .int 0, .int 1]) (rest := []) rfl (Nat.le_of_ble_eq_true rfl) ⟨Nat.le_of_ble_eq_true rfl, Nat.le_of_ble_eq_true rfl⟩ dX5_isRun_31 (fun r31 σ31 H locs hq_31 hR hS => ?_)
        obtain ⟨rfl, rfl⟩ := hq_31
        refine lv_if_eq (tgt := 41) hx hb dX5_isRun_34 (by decide) (fun c_34 => ?_) (fun c_34 => ?_)
        · replace hf := (if_pos c_34).symm.trans hf
          refine lv_iconst (v := 0) hx hb dX5_isRun_41 (by decide) ?_
          obtain rfl := Option.some.inj hf
          exact x_zret C hR hS dX5_isRun_42 (by first | rfl | decide | (simp only []; split <;> rfl)) ⟨rfl, rfl⟩
        · replace hf := (if_neg c_34).symm.trans hf
          refine lv_iconst (v := 1) hx hb dX5_isRun_37 (by decide) ?_
          refine lv_goto (tgt := 42) hx hb dX5_isRun_38 (by decide) ?_
          obtain rfl := Option.some.inj hf
          exact x_zret C hR hS dX5_isRun_42 (by first | rfl | decide | (simp only []; split <;> rfl)) ⟨rfl, rfl⟩
theorem hdV_X5_run : yX5_run.cls = RX5 ∧ yX5_run.cls ≠ "java/lang/invoke/MethodHandle" ∧ yX5_run.cls ≠ "java/lang/invoke/VarHandle" ∧ (parseMethodDescriptor yX5_run.desc).map (fun d => d.parameters.length) = some 4 := by decide +kernel
def f_X5_run (x1 : Int32) (x2 : Int32) (x3 : Int32) (x4 : Int32) (σ : St) : Option (Int32 × St) :=
  bd (f_X5_isRun x1 x2 x3 x4 σ) (fun r5 σ5 => (if r5 = 0 then bd (f_X5_refusedBad σ5) (fun r12 σ12 => some (r12, σ12)) else bv (f_X4_tell x1 x2 x3 x4 σ5) (fun σ29 => bd (f_X4_go σ29) (fun r40 σ40 => bv (f_X0_remember_1 σ40) (fun σ48 => bd (f_X4_standsBehind σ48) (fun r63 σ63 => some (sI σ63 61 7, (pI (pI (pI σ63 1 2 r63) 1 3 ((sI σ63 1 3) + (sI σ63 61 7))) 1 4 ((sI σ63 1 4) + (sI σ63 61 8))))))))))
set_option maxHeartbeats 4000000 in
set_option maxRecDepth 100000 in
theorem c_X5_run (l : Launch) (G : GG) (x1 : Int32) (x2 : Int32) (x3 : Int32) (x4 : Int32) (σ : St) (res : Int32 × St) (hf : f_X5_run x1 x2 x3 x4 σ = some res) : CI l yX5_run wsX5_run 3 [.ref (G.2.1 0), .int x1, .int x2, .int x3, .int x4] G σ (fun r u => r = res.1 ∧ u = res.2) := by
  refine x_ent (ret := (some .int)) cX5_run 5 (by decide) rfl (Nat.le_of_ble_eq_true rfl) ?_
  intro p e s m below meth c ls C hR hS hl
  have C : Cx p s m [.ref (G.2.1 0), .int x1, .int x2, .int x3, .int x4].toArray meth c cX5_run RX5 wsX5_run (some .int) 5 G := C
  have hx := C.1
  have hb := C.2.1
  have hl : lv_has ls 5 [(0, .ref (G.2.1 0)), (1, .int x1), (2, .int x2), (3, .int x3), (4, .int x4)] := hl
  have inX5 : ∀ w ∈ u_ws RX5 TX5 13, w ∈ wsX5_run := fun w h => List.mem_cons_of_mem _ (List.mem_append_left _ (List.mem_append_left _ (List.mem_append_left _ (List.mem_append_right _ h))))
  have inX0 : ∀ w ∈ u_ws RX0 TX0 14, w ∈ wsX5_run := fun w h => List.mem_cons_of_mem _ (List.mem_append_left _ (List.mem_append_left _ (List.mem_append_right _ h)))
  have inX4 : ∀ w ∈ u_ws RX4 TX4 14, w ∈ wsX5_run := fun w h => List.mem_cons_of_mem _ (List.mem_append_left _ (List.mem_append_right _ h))
  unfold f_X5_run at hf
  refine lv_iload_n hx hb dX5_run_0 rfl (lv_at hl 1 rfl) ?_
  refine lv_iload_n hx hb dX5_run_1 rfl (lv_at hl 2 rfl) ?_
  refine lv_iload_n hx hb dX5_run_2 rfl (lv_at hl 3 rfl) ?_
  refine lv_iload hx hb dX5_run_3 (lv_at hl 4 rfl) ?_
  obtain ⟨r5_, σ5_, hc_5, hf⟩ := bd_some hf
  refine x_csI C hl.1 hR hS (c_X5_isRun l G x1 x2 x3 x4 σ _ hc_5) gX5_run_X5_isRun rfl hdS_X5_isRun ⟨Nat.le_of_ble_eq_true rfl, Nat.le_of_ble_eq_true rfl⟩ rfl (As := [.int x1, .int x2, .int x3, .int x4]) (rest := []) rfl (Nat.le_of_ble_eq_true rfl) ⟨Nat.le_of_ble_eq_true rfl, Nat.le_of_ble_eq_true rfl⟩ dX5_run_5 (fun r5 σ5 H locs hq_5 hR hS => ?_)
  obtain ⟨rfl, rfl⟩ := hq_5
  refine lv_if_ne (tgt := 16) hx hb dX5_run_8 (by decide) (fun c_8 => ?_) (fun c_8 => ?_)
  · replace hf := (if_neg c_8).symm.trans hf
    refine lv_aload_n hx hb dX5_run_16 rfl (lv_at hl 0 rfl) ?_
    refine x_get C hR inX5 0 (by decide) (cz4 rfl) rfl 4 (by decide) 1 rfl (.ref (G.2.1 61)) rfl dX5_run_17 ?_
    refine lv_aload_n hx hb dX5_run_20 rfl (lv_at hl 0 rfl) ?_
    refine x_get C hR inX5 0 (by decide) (cz4 rfl) rfl 0 (by decide) 2 rfl (.ref (G.2.1 1)) rfl dX5_run_21 ?_
    refine lv_iload_n hx hb dX5_run_24 rfl (lv_at hl 1 rfl) ?_
    refine lv_iload_n hx hb dX5_run_25 rfl (lv_at hl 2 rfl) ?_
    refine lv_iload_n hx hb dX5_run_26 rfl (lv_at hl 3 rfl) ?_
    refine lv_iload hx hb dX5_run_27 (lv_at hl 4 rfl) ?_
    obtain ⟨σ29_, hc_29, hf⟩ := bv_some hf
    refine x_cvV C hl.1 hR hS (c_X4_tell l G x1 x2 x3 x4 σ5 _ hc_29) gX5_run_X4_tell rfl hdV_X4_tell ⟨Nat.le_of_ble_eq_true rfl, Nat.le_of_ble_eq_true rfl⟩ (by decide) (cz3 rfl) rfl rfl (As := [.ref (G.2.1 1), .int x1, .int x2, .int x3, .int x4]) (rest := []) rfl (Nat.le_of_ble_eq_true rfl) ⟨Nat.le_of_ble_eq_true rfl, Nat.le_of_ble_eq_true rfl⟩ dX5_run_29 (fun σ29 H locs hq_29 hR hS => ?_)
    subst hq_29
    refine lv_aload_n hx hb dX5_run_32 rfl (lv_at hl 0 rfl) ?_
    refine x_get C hR inX5 0 (by decide) (cz4 rfl) rfl 4 (by decide) 1 rfl (.ref (G.2.1 61)) rfl dX5_run_33 ?_
    refine lv_aload_n hx hb dX5_run_36 rfl (lv_at hl 0 rfl) ?_
    refine x_get C hR inX5 0 (by decide) (cz4 rfl) rfl 0 (by decide) 2 rfl (.ref (G.2.1 1)) rfl dX5_run_37 ?_
    obtain ⟨r40_, σ40_, hc_40, hf⟩ := bd_some hf
    refine x_cvI C hl.1 hR hS (c_X4_go l G σ29 _ hc_40) gX5_run_X4_go rfl hdV_X4_go ⟨Nat.le_of_ble_eq_true rfl, Nat.le_of_ble_eq_true rfl⟩ (by decide) (cz3 rfl) rfl rfl (As := [.ref (G.2.1 1)]) (rest := []) rfl (Nat.le_of_ble_eq_true rfl) ⟨Nat.le_of_ble_eq_true rfl, Nat.le_of_ble_eq_true rfl⟩ dX5_run_40 (fun r40 σ40 H locs hq_40 hR hS => ?_)
    obtain ⟨rfl, rfl⟩ := hq_40
    refine lv_pop hx hb dX5_run_43 rfl ?_
    refine lv_aload_n hx hb dX5_run_44 rfl (lv_at hl 0 rfl) ?_
    refine x_get C hR inX5 0 (by decide) (cz4 rfl) rfl 0 (by decide) 2 rfl (.ref (G.2.1 1)) rfl dX5_run_45 ?_
    obtain ⟨σ48_, hc_48, hf⟩ := bv_some hf
    refine x_cvV C hl.1 hR hS (c_X0_remember_1 l G σ40 _ hc_48) gX5_run_X0_remember rfl hdV_X0_remember ⟨Nat.le_of_ble_eq_true rfl, Nat.le_of_ble_eq_true rfl⟩ (by decide) (cz0 rfl) rfl rfl (As := []) (rest := []) rfl (Nat.le_of_ble_eq_true rfl) ⟨Nat.le_of_ble_eq_true rfl, Nat.le_of_ble_eq_true rfl⟩ dX5_run_48 (fun σ48 H locs hq_48 hR hS => ?_)
    subst hq_48
    refine lv_aload_n hx hb dX5_run_51 rfl (lv_at hl 0 rfl) ?_
    refine x_get C hR inX5 0 (by decide) (cz4 rfl) rfl 0 (by decide) 2 rfl (.ref (G.2.1 1)) rfl dX5_run_52 ?_
    refine lv_aload_n hx hb dX5_run_55 rfl (lv_at hl 0 rfl) ?_
    refine x_get C hR inX5 0 (by decide) (cz4 rfl) rfl 4 (by decide) 1 rfl (.ref (G.2.1 61)) rfl dX5_run_56 ?_
    refine lv_aload_n hx hb dX5_run_59 rfl (lv_at hl 0 rfl) ?_
    refine x_get C hR inX5 0 (by decide) (cz4 rfl) rfl 0 (by decide) 2 rfl (.ref (G.2.1 1)) rfl dX5_run_60 ?_
    obtain ⟨r63_, σ63_, hc_63, hf⟩ := bd_some hf
    refine x_cvI C hl.1 hR hS (c_X4_standsBehind l G σ48 _ hc_63) gX5_run_X4_standsBehind rfl hdV_X4_standsBehind ⟨Nat.le_of_ble_eq_true rfl, Nat.le_of_ble_eq_true rfl⟩ (by decide) (cz3 rfl) rfl rfl (As := [.ref (G.2.1 1)]) (rest := [.ref (G.2.1 1)]) rfl (Nat.le_of_ble_eq_true rfl) ⟨Nat.le_of_ble_eq_true rfl, Nat.le_of_ble_eq_true rfl⟩ dX5_run_63 (fun r63 σ63 H locs hq_63 hR hS => ?_)
    obtain ⟨rfl, rfl⟩ := hq_63
    refine x_put (τ := (pI σ63 1 2 r63)) C hR hS inX0 tyX0 tyX0_ok nmX0 1 (by decide) (cz0 rfl) rfl 2 (by decide) (pfI0_2 rfl) pI_o 3 rfl rfl rfl rfl (Nat.le_of_ble_eq_true rfl) dX5_run_66 (fun H locs hR hS => ?_)
    refine lv_aload_n hx hb dX5_run_69 rfl (lv_at hl 0 rfl) ?_
    refine x_get C hR inX5 0 (by decide) (cz4 rfl) rfl 0 (by decide) 2 rfl (.ref (G.2.1 1)) rfl dX5_run_70 ?_
    refine lv_dup hx hb dX5_run_73 rfl ?_
    refine x_get C hR inX0 1 (by decide) (cz0 rfl) rfl 3 (by decide) 4 rfl (.int (sI σ63 1 3)) rfl dX5_run_74 ?_
    refine lv_aload_n hx hb dX5_run_77 rfl (lv_at hl 0 rfl) ?_
    refine x_get C hR inX5 0 (by decide) (cz4 rfl) rfl 4 (by decide) 1 rfl (.ref (G.2.1 61)) rfl dX5_run_78 ?_
    refine x_get C hR inX4 61 (by decide) (cz3 rfl) rfl 7 (by decide) 5 rfl (.int (sI σ63 61 7)) rfl dX5_run_81 ?_
    refine lv_iadd hx hb dX5_run_84 ?_
    refine x_put (τ := (pI (pI σ63 1 2 r63) 1 3 ((sI σ63 1 3) + (sI σ63 61 7)))) C hR hS inX0 tyX0 tyX0_ok nmX0 1 (by decide) (cz0 rfl) rfl 3 (by decide) (pfI0_3 rfl) pI_o 4 rfl rfl rfl rfl (Nat.le_of_ble_eq_true rfl) dX5_run_85 (fun H locs hR hS => ?_)
    refine lv_aload_n hx hb dX5_run_88 rfl (lv_at hl 0 rfl) ?_
    refine x_get C hR inX5 0 (by decide) (cz4 rfl) rfl 0 (by decide) 2 rfl (.ref (G.2.1 1)) rfl dX5_run_89 ?_
    refine lv_dup hx hb dX5_run_92 rfl ?_
    refine x_get C hR inX0 1 (by decide) (cz0 rfl) rfl 4 (by decide) 6 rfl (.int (sI σ63 1 4)) rfl dX5_run_93 ?_
    refine lv_aload_n hx hb dX5_run_96 rfl (lv_at hl 0 rfl) ?_
    refine x_get C hR inX5 0 (by decide) (cz4 rfl) rfl 4 (by decide) 1 rfl (.ref (G.2.1 61)) rfl dX5_run_97 ?_
    refine x_get C hR inX4 61 (by decide) (cz3 rfl) rfl 8 (by decide) 7 rfl (.int (sI σ63 61 8)) rfl dX5_run_100 ?_
    refine lv_iadd hx hb dX5_run_103 ?_
    refine x_put (τ := (pI (pI (pI σ63 1 2 r63) 1 3 ((sI σ63 1 3) + (sI σ63 61 7))) 1 4 ((sI σ63 1 4) + (sI σ63 61 8)))) C hR hS inX0 tyX0 tyX0_ok nmX0 1 (by decide) (cz0 rfl) rfl 4 (by decide) (pfI0_4 rfl) pI_o 6 rfl rfl rfl rfl (Nat.le_of_ble_eq_true rfl) dX5_run_104 (fun H locs hR hS => ?_)
    refine lv_aload_n hx hb dX5_run_107 rfl (lv_at hl 0 rfl) ?_
    refine x_get C hR inX5 0 (by decide) (cz4 rfl) rfl 4 (by decide) 1 rfl (.ref (G.2.1 61)) rfl dX5_run_108 ?_
    refine x_get C hR inX4 61 (by decide) (cz3 rfl) rfl 7 (by decide) 5 rfl (.int (sI σ63 61 7)) rfl dX5_run_111 ?_
    obtain rfl := Option.some.inj hf
    exact x_iret C hR hS dX5_run_114 ⟨rfl, rfl⟩
  · replace hf := (if_pos c_8).symm.trans hf
    refine lv_aload_n hx hb dX5_run_11 rfl (lv_at hl 0 rfl) ?_
    obtain ⟨r12_, σ12_, hc_12, hf⟩ := bd_some hf
    refine x_cvI C hl.1 hR hS (c_X5_refusedBad l G σ5 _ hc_12) gX5_run_X5_refusedBad rfl hdV_X5_refusedBad ⟨Nat.le_of_ble_eq_true rfl, Nat.le_of_ble_eq_true rfl⟩ (by decide) (cz4 rfl) rfl rfl (As := []) (rest := []) rfl (Nat.le_of_ble_eq_true rfl) ⟨Nat.le_of_ble_eq_true rfl, Nat.le_of_ble_eq_true rfl⟩ dX5_run_12 (fun r12 σ12 H locs hq_12 hR hS => ?_)
    obtain ⟨rfl, rfl⟩ := hq_12
    obtain rfl := Option.some.inj hf
    exact x_iret C hR hS dX5_run_15 ⟨rfl, rfl⟩
theorem hdV_X5_refusedNo : yX5_refusedNo.cls = RX5 ∧ yX5_refusedNo.cls ≠ "java/lang/invoke/MethodHandle" ∧ yX5_refusedNo.cls ≠ "java/lang/invoke/VarHandle" ∧ (parseMethodDescriptor yX5_refusedNo.desc).map (fun d => d.parameters.length) = some 0 := by decide +kernel
def f_X5_refusedNo (σ : St) : Option (Int32 × St) :=
  some ((-3), (pI σ 0 11 ((sI σ 0 11) + 1)))
set_option maxHeartbeats 4000000 in
set_option maxRecDepth 100000 in
theorem c_X5_refusedNo (l : Launch) (G : GG) (σ : St) (res : Int32 × St) (hf : f_X5_refusedNo σ = some res) : CI l yX5_refusedNo wsX5_refusedNo 0 [.ref (G.2.1 0)] G σ (fun r u => r = res.1 ∧ u = res.2) := by
  refine x_ent (ret := (some .int)) cX5_refusedNo 1 (by decide) rfl (Nat.le_of_ble_eq_true rfl) ?_
  intro p e s m below meth c ls C hR hS hl
  have C : Cx p s m [.ref (G.2.1 0)].toArray meth c cX5_refusedNo RX5 wsX5_refusedNo (some .int) 1 G := C
  have hx := C.1
  have hb := C.2.1
  have hl : lv_has ls 1 [(0, .ref (G.2.1 0))] := hl
  have inX5 : ∀ w ∈ u_ws RX5 TX5 13, w ∈ wsX5_refusedNo := fun w h => List.mem_cons_of_mem _ (List.mem_append_right _ h)
  unfold f_X5_refusedNo at hf
  refine lv_aload_n hx hb dX5_refusedNo_0 rfl (lv_at hl 0 rfl) ?_
  refine lv_dup hx hb dX5_refusedNo_1 rfl ?_
  refine x_get C hR inX5 0 (by decide) (cz4 rfl) rfl 11 (by decide) 1 rfl (.int (sI σ 0 11)) rfl dX5_refusedNo_2 ?_
  refine lv_iconst (v := 1) hx hb dX5_refusedNo_5 (by decide) ?_
  refine lv_iadd hx hb dX5_refusedNo_6 ?_
  refine x_put (τ := (pI σ 0 11 ((sI σ 0 11) + 1))) C hR hS inX5 tyX5 tyX5_ok nmX5 0 (by decide) (cz4 rfl) rfl 11 (by decide) (pfI4_11 rfl) pI_o 1 rfl rfl rfl rfl (Nat.le_of_ble_eq_true rfl) dX5_refusedNo_7 (fun H locs hR hS => ?_)
  refine lv_bipush (v := (-3)) hx hb dX5_refusedNo_10 (by decide) ?_
  obtain rfl := Option.some.inj hf
  exact x_iret C hR hS dX5_refusedNo_12 ⟨rfl, rfl⟩
theorem hdV_X5_undo : yX5_undo.cls = RX5 ∧ yX5_undo.cls ≠ "java/lang/invoke/MethodHandle" ∧ yX5_undo.cls ≠ "java/lang/invoke/VarHandle" ∧ (parseMethodDescriptor yX5_undo.desc).map (fun d => d.parameters.length) = some 0 := by decide +kernel
def f_X5_undo (σ : St) : Option (Int32 × St) :=
  (if (sI σ 1 6) = 0 then bd (f_X5_refusedNo σ) (fun r11 σ11 => some (r11, σ11)) else bv (f_X0_goBack_1 σ) (fun σ19 => some (sI σ19 1 3, σ19)))
set_option maxHeartbeats 4000000 in
set_option maxRecDepth 100000 in
theorem c_X5_undo (l : Launch) (G : GG) (σ : St) (res : Int32 × St) (hf : f_X5_undo σ = some res) : CI l yX5_undo wsX5_undo 2 [.ref (G.2.1 0)] G σ (fun r u => r = res.1 ∧ u = res.2) := by
  refine x_ent (ret := (some .int)) cX5_undo 1 (by decide) rfl (Nat.le_of_ble_eq_true rfl) ?_
  intro p e s m below meth c ls C hR hS hl
  have C : Cx p s m [.ref (G.2.1 0)].toArray meth c cX5_undo RX5 wsX5_undo (some .int) 1 G := C
  have hx := C.1
  have hb := C.2.1
  have hl : lv_has ls 1 [(0, .ref (G.2.1 0))] := hl
  have inX5 : ∀ w ∈ u_ws RX5 TX5 13, w ∈ wsX5_undo := fun w h => List.mem_cons_of_mem _ (List.mem_append_left _ (List.mem_append_left _ (List.mem_append_right _ h)))
  have inX0 : ∀ w ∈ u_ws RX0 TX0 14, w ∈ wsX5_undo := fun w h => List.mem_cons_of_mem _ (List.mem_append_left _ (List.mem_append_right _ h))
  unfold f_X5_undo at hf
  refine lv_aload_n hx hb dX5_undo_0 rfl (lv_at hl 0 rfl) ?_
  refine x_get C hR inX5 0 (by decide) (cz4 rfl) rfl 0 (by decide) 1 rfl (.ref (G.2.1 1)) rfl dX5_undo_1 ?_
  refine x_get C hR inX0 1 (by decide) (cz0 rfl) rfl 6 (by decide) 2 rfl (.int (sI σ 1 6)) rfl dX5_undo_4 ?_
  refine lv_if_ne (tgt := 15) hx hb dX5_undo_7 (by decide) (fun c_7 => ?_) (fun c_7 => ?_)
  · replace hf := (if_neg c_7).symm.trans hf
    refine lv_aload_n hx hb dX5_undo_15 rfl (lv_at hl 0 rfl) ?_
    refine x_get C hR inX5 0 (by decide) (cz4 rfl) rfl 0 (by decide) 1 rfl (.ref (G.2.1 1)) rfl dX5_undo_16 ?_
    obtain ⟨σ19_, hc_19, hf⟩ := bv_some hf
    refine x_cvV C hl.1 hR hS (c_X0_goBack_1 l G σ _ hc_19) gX5_undo_X0_goBack rfl hdV_X0_goBack ⟨Nat.le_of_ble_eq_true rfl, Nat.le_of_ble_eq_true rfl⟩ (by decide) (cz0 rfl) rfl rfl (As := []) (rest := []) rfl (Nat.le_of_ble_eq_true rfl) ⟨Nat.le_of_ble_eq_true rfl, Nat.le_of_ble_eq_true rfl⟩ dX5_undo_19 (fun σ19 H locs hq_19 hR hS => ?_)
    subst hq_19
    refine lv_aload_n hx hb dX5_undo_22 rfl (lv_at hl 0 rfl) ?_
    refine x_get C hR inX5 0 (by decide) (cz4 rfl) rfl 0 (by decide) 1 rfl (.ref (G.2.1 1)) rfl dX5_undo_23 ?_
    refine x_get C hR inX0 1 (by decide) (cz0 rfl) rfl 3 (by decide) 3 rfl (.int (sI σ19 1 3)) rfl dX5_undo_26 ?_
    obtain rfl := Option.some.inj hf
    exact x_iret C hR hS dX5_undo_29 ⟨rfl, rfl⟩
  · replace hf := (if_pos c_7).symm.trans hf
    refine lv_aload_n hx hb dX5_undo_10 rfl (lv_at hl 0 rfl) ?_
    obtain ⟨r11_, σ11_, hc_11, hf⟩ := bd_some hf
    refine x_cvI C hl.1 hR hS (c_X5_refusedNo l G σ _ hc_11) gX5_undo_X5_refusedNo rfl hdV_X5_refusedNo ⟨Nat.le_of_ble_eq_true rfl, Nat.le_of_ble_eq_true rfl⟩ (by decide) (cz4 rfl) rfl rfl (As := []) (rest := []) rfl (Nat.le_of_ble_eq_true rfl) ⟨Nat.le_of_ble_eq_true rfl, Nat.le_of_ble_eq_true rfl⟩ dX5_undo_11 (fun r11 σ11 H locs hq_11 hR hS => ?_)
    obtain ⟨rfl, rfl⟩ := hq_11
    obtain rfl := Option.some.inj hf
    exact x_iret C hR hS dX5_undo_14 ⟨rfl, rfl⟩
theorem hdV_X5_of : yX5_of.cls = RX5 ∧ yX5_of.cls ≠ "java/lang/invoke/MethodHandle" ∧ yX5_of.cls ≠ "java/lang/invoke/VarHandle" ∧ (parseMethodDescriptor yX5_of.desc).map (fun d => d.parameters.length) = some 2 := by decide +kernel
def f_X5_of (x1 : Int32) (x2 : Int32) (σ : St) : Option (Int32 × St) :=
  bd (f_X0_has_1 x1 σ) (fun r5 σ5 => (if r5 = 0 then bd (f_X5_refusedBad σ5) (fun r21 σ21 => some (r21, σ21)) else bd (f_X5_within x2 0 5 σ5) (fun r14 σ14 => (if r14 = 0 then bd (f_X5_refusedBad σ14) (fun r21 σ21 => some (r21, σ21)) else bd (f_X2_get 3 x1 σ14) (fun r33 σ33 => (if x2 = 0 then some (r33, σ33) else (if x2 = 1 then bd (f_X0_standsOf_1 x1 σ33) (fun r79 σ79 => some (r79, σ79)) else (if x2 = 2 then bd (f_X2_get 5 x1 σ33) (fun r91 σ91 => some (r91, σ91)) else (if x2 = 3 then bd (f_X1_readyMinutes r33 (sI σ33 1 1) σ33) (fun r103 σ103 => some (r103, σ103)) else (if x2 = 4 then bd (f_X1_passedMinutes r33 (sI σ33 1 1) σ33) (fun r115 σ115 => some (r115, σ115)) else bd (f_X1_staysMinutes r33 σ33) (fun r120 σ120 => some (r120, σ120))))))))))))
set_option maxHeartbeats 4000000 in
set_option maxRecDepth 100000 in
theorem c_X5_of (l : Launch) (G : GG) (x1 : Int32) (x2 : Int32) (σ : St) (res : Int32 × St) (hf : f_X5_of x1 x2 σ = some res) : CI l yX5_of wsX5_of 2 [.ref (G.2.1 0), .int x1, .int x2] G σ (fun r u => r = res.1 ∧ u = res.2) := by
  refine x_ent (ret := (some .int)) cX5_of 4 (by decide) rfl (Nat.le_of_ble_eq_true rfl) ?_
  intro p e s m below meth c ls C hR hS hl
  have C : Cx p s m [.ref (G.2.1 0), .int x1, .int x2].toArray meth c cX5_of RX5 wsX5_of (some .int) 4 G := C
  have hx := C.1
  have hb := C.2.1
  have hl : lv_has ls 4 [(0, .ref (G.2.1 0)), (1, .int x1), (2, .int x2)] := hl
  have inX5 : ∀ w ∈ u_ws RX5 TX5 13, w ∈ wsX5_of := fun w h => List.mem_cons_of_mem _ (List.mem_append_left _ (List.mem_append_left _ (List.mem_append_right _ h)))
  have inX0 : ∀ w ∈ u_ws RX0 TX0 14, w ∈ wsX5_of := fun w h => List.mem_cons_of_mem _ (List.mem_append_left _ (List.mem_append_right _ h))
  unfold f_X5_of at hf
  refine lv_aload_n hx hb dX5_of_0 rfl (lv_at hl 0 rfl) ?_
  refine x_get C hR inX5 0 (by decide) (cz4 rfl) rfl 0 (by decide) 1 rfl (.ref (G.2.1 1)) rfl dX5_of_1 ?_
  refine lv_iload_n hx hb dX5_of_4 rfl (lv_at hl 1 rfl) ?_
  obtain ⟨r5_, σ5_, hc_5, hf⟩ := bd_some hf
  refine x_cvI C hl.1 hR hS (c_X0_has_1 l G x1 σ _ hc_5) gX5_of_X0_has rfl hdV_X0_has ⟨Nat.le_of_ble_eq_true rfl, Nat.le_of_ble_eq_true rfl⟩ (by decide) (cz0 rfl) rfl rfl (As := [.int x1]) (rest := []) rfl (Nat.le_of_ble_eq_true rfl) ⟨Nat.le_of_ble_eq_true rfl, Nat.le_of_ble_eq_true rfl⟩ dX5_of_5 (fun r5 σ5 H locs hq_5 hR hS => ?_)
  obtain ⟨rfl, rfl⟩ := hq_5
  refine lv_if_eq (tgt := 20) hx hb dX5_of_8 (by decide) (fun c_8 => ?_) (fun c_8 => ?_)
  · replace hf := (if_pos c_8).symm.trans hf
    refine lv_aload_n hx hb dX5_of_20 rfl (lv_at hl 0 rfl) ?_
    obtain ⟨r21_, σ21_, hc_21, hf⟩ := bd_some hf
    refine x_cvI C hl.1 hR hS (c_X5_refusedBad l G σ5 _ hc_21) gX5_of_X5_refusedBad rfl hdV_X5_refusedBad ⟨Nat.le_of_ble_eq_true rfl, Nat.le_of_ble_eq_true rfl⟩ (by decide) (cz4 rfl) rfl rfl (As := []) (rest := []) rfl (Nat.le_of_ble_eq_true rfl) ⟨Nat.le_of_ble_eq_true rfl, Nat.le_of_ble_eq_true rfl⟩ dX5_of_21 (fun r21 σ21 H locs hq_21 hR hS => ?_)
    obtain ⟨rfl, rfl⟩ := hq_21
    obtain rfl := Option.some.inj hf
    exact x_iret C hR hS dX5_of_24 ⟨rfl, rfl⟩
  · replace hf := (if_neg c_8).symm.trans hf
    refine lv_iload_n hx hb dX5_of_11 rfl (lv_at hl 2 rfl) ?_
    refine lv_iconst (v := 0) hx hb dX5_of_12 (by decide) ?_
    refine lv_iconst (v := 5) hx hb dX5_of_13 (by decide) ?_
    obtain ⟨r14_, σ14_, hc_14, hf⟩ := bd_some hf
    refine x_csI C hl.1 hR hS (c_X5_within l G x2 0 5 σ5 _ hc_14) gX5_of_X5_within rfl hdS_X5_within ⟨Nat.le_of_ble_eq_true rfl, Nat.le_of_ble_eq_true rfl⟩ rfl (As := [.int x2, .int 0, .int 5]) (rest := []) rfl (Nat.le_of_ble_eq_true rfl) ⟨Nat.le_of_ble_eq_true rfl, Nat.le_of_ble_eq_true rfl⟩ dX5_of_14 (fun r14 σ14 H locs hq_14 hR hS => ?_)
    obtain ⟨rfl, rfl⟩ := hq_14
    refine lv_if_ne (tgt := 25) hx hb dX5_of_17 (by decide) (fun c_17 => ?_) (fun c_17 => ?_)
    · replace hf := (if_neg c_17).symm.trans hf
      refine lv_aload_n hx hb dX5_of_25 rfl (lv_at hl 0 rfl) ?_
      refine x_get C hR inX5 0 (by decide) (cz4 rfl) rfl 0 (by decide) 1 rfl (.ref (G.2.1 1)) rfl dX5_of_26 ?_
      refine x_get C hR inX0 1 (by decide) (cz0 rfl) rfl 7 (by decide) 2 rfl (.ref (G.2.1 2)) rfl dX5_of_29 ?_
      refine lv_iload_n hx hb dX5_of_32 rfl (lv_at hl 1 rfl) ?_
      obtain ⟨r33_, σ33_, hc_33, hf⟩ := bd_some hf
      refine x_cvI C hl.1 hR hS (c_X2_get l G 3 2 rfl rfl rfl x1 σ14 _ hc_33) gX5_of_X2_get rfl hdV_X2_get ⟨Nat.le_of_ble_eq_true rfl, Nat.le_of_ble_eq_true rfl⟩ (by decide) (cz1 rfl) rfl rfl (As := [.int x1]) (rest := []) rfl (Nat.le_of_ble_eq_true rfl) ⟨Nat.le_of_ble_eq_true rfl, Nat.le_of_ble_eq_true rfl⟩ dX5_of_33 (fun r33 σ33 H locs hq_33 hR hS => ?_)
      obtain ⟨rfl, rfl⟩ := hq_33
      refine lv_istore_n (lv' := [(3, .int r33), (0, .ref (G.2.1 0)), (1, .int x1), (2, .int x2)]) hx hb dX5_of_36 rfl hl (by decide) rfl (fun ls hl => ?_)
      refine lv_iload_n hx hb dX5_of_37 rfl (lv_at hl 3 rfl) ?_
      by_cases c_38_0 : x2 = 0
      · replace hf := (if_pos c_38_0).symm.trans hf
        refine x_tbl (tgt := 72) (off := 34) hx hb c_38_0 dX5_of_38 (by decide) (by decide) (by decide) (by decide) ?_
        refine lv_iload_n hx hb dX5_of_72 rfl (lv_at hl 0 rfl) ?_
        obtain rfl := Option.some.inj hf
        exact x_iret C hR hS dX5_of_73 ⟨rfl, rfl⟩
      · replace hf := (if_neg c_38_0).symm.trans hf
        by_cases c_38_1 : x2 = 1
        · replace hf := (if_pos c_38_1).symm.trans hf
          refine x_tbl (tgt := 74) (off := 36) hx hb c_38_1 dX5_of_38 (by decide) (by decide) (by decide) (by decide) ?_
          refine lv_aload_n hx hb dX5_of_74 rfl (lv_at hl 1 rfl) ?_
          refine x_get C hR inX5 0 (by decide) (cz4 rfl) rfl 0 (by decide) 1 rfl (.ref (G.2.1 1)) rfl dX5_of_75 ?_
          refine lv_iload_n hx hb dX5_of_78 rfl (lv_at hl 2 rfl) ?_
          obtain ⟨r79_, σ79_, hc_79, hf⟩ := bd_some hf
          refine x_cvI C hl.1 hR hS (c_X0_standsOf_1 l G x1 σ33 _ hc_79) gX5_of_X0_standsOf rfl hdV_X0_standsOf ⟨Nat.le_of_ble_eq_true rfl, Nat.le_of_ble_eq_true rfl⟩ (by decide) (cz0 rfl) rfl rfl (As := [.int x1]) (rest := []) rfl (Nat.le_of_ble_eq_true rfl) ⟨Nat.le_of_ble_eq_true rfl, Nat.le_of_ble_eq_true rfl⟩ dX5_of_79 (fun r79 σ79 H locs hq_79 hR hS => ?_)
          obtain ⟨rfl, rfl⟩ := hq_79
          obtain rfl := Option.some.inj hf
          exact x_iret C hR hS dX5_of_82 ⟨rfl, rfl⟩
        · replace hf := (if_neg c_38_1).symm.trans hf
          by_cases c_38_2 : x2 = 2
          · replace hf := (if_pos c_38_2).symm.trans hf
            refine x_tbl (tgt := 83) (off := 45) hx hb c_38_2 dX5_of_38 (by decide) (by decide) (by decide) (by decide) ?_
            refine lv_aload_n hx hb dX5_of_83 rfl (lv_at hl 1 rfl) ?_
            refine x_get C hR inX5 0 (by decide) (cz4 rfl) rfl 0 (by decide) 1 rfl (.ref (G.2.1 1)) rfl dX5_of_84 ?_
            refine x_get C hR inX0 1 (by decide) (cz0 rfl) rfl 8 (by decide) 3 rfl (.ref (G.2.1 4)) rfl dX5_of_87 ?_
            refine lv_iload_n hx hb dX5_of_90 rfl (lv_at hl 2 rfl) ?_
            obtain ⟨r91_, σ91_, hc_91, hf⟩ := bd_some hf
            refine x_cvI C hl.1 hR hS (c_X2_get l G 5 4 rfl rfl rfl x1 σ33 _ hc_91) gX5_of_X2_get rfl hdV_X2_get ⟨Nat.le_of_ble_eq_true rfl, Nat.le_of_ble_eq_true rfl⟩ (by decide) (cz1 rfl) rfl rfl (As := [.int x1]) (rest := []) rfl (Nat.le_of_ble_eq_true rfl) ⟨Nat.le_of_ble_eq_true rfl, Nat.le_of_ble_eq_true rfl⟩ dX5_of_91 (fun r91 σ91 H locs hq_91 hR hS => ?_)
            obtain ⟨rfl, rfl⟩ := hq_91
            obtain rfl := Option.some.inj hf
            exact x_iret C hR hS dX5_of_94 ⟨rfl, rfl⟩
          · replace hf := (if_neg c_38_2).symm.trans hf
            by_cases c_38_3 : x2 = 3
            · replace hf := (if_pos c_38_3).symm.trans hf
              refine x_tbl (tgt := 95) (off := 57) hx hb c_38_3 dX5_of_38 (by decide) (by decide) (by decide) (by decide) ?_
              refine lv_iload_n hx hb dX5_of_95 rfl (lv_at hl 0 rfl) ?_
              refine lv_aload_n hx hb dX5_of_96 rfl (lv_at hl 1 rfl) ?_
              refine x_get C hR inX5 0 (by decide) (cz4 rfl) rfl 0 (by decide) 1 rfl (.ref (G.2.1 1)) rfl dX5_of_97 ?_
              refine x_get C hR inX0 1 (by decide) (cz0 rfl) rfl 1 (by decide) 4 rfl (.int (sI σ33 1 1)) rfl dX5_of_100 ?_
              obtain ⟨r103_, σ103_, hc_103, hf⟩ := bd_some hf
              refine x_csI C hl.1 hR hS (c_X1_readyMinutes l G r33 (sI σ33 1 1) σ33 _ hc_103) gX5_of_X1_readyMinutes rfl hdS_X1_readyMinutes ⟨Nat.le_of_ble_eq_true rfl, Nat.le_of_ble_eq_true rfl⟩ rfl (As := [.int r33, .int (sI σ33 1 1)]) (rest := []) rfl (Nat.le_of_ble_eq_true rfl) ⟨Nat.le_of_ble_eq_true rfl, Nat.le_of_ble_eq_true rfl⟩ dX5_of_103 (fun r103 σ103 H locs hq_103 hR hS => ?_)
              obtain ⟨rfl, rfl⟩ := hq_103
              obtain rfl := Option.some.inj hf
              exact x_iret C hR hS dX5_of_106 ⟨rfl, rfl⟩
            · replace hf := (if_neg c_38_3).symm.trans hf
              by_cases c_38_4 : x2 = 4
              · replace hf := (if_pos c_38_4).symm.trans hf
                refine x_tbl (tgt := 107) (off := 69) hx hb c_38_4 dX5_of_38 (by decide) (by decide) (by decide) (by decide) ?_
                refine lv_iload_n hx hb dX5_of_107 rfl (lv_at hl 0 rfl) ?_
                refine lv_aload_n hx hb dX5_of_108 rfl (lv_at hl 1 rfl) ?_
                refine x_get C hR inX5 0 (by decide) (cz4 rfl) rfl 0 (by decide) 1 rfl (.ref (G.2.1 1)) rfl dX5_of_109 ?_
                refine x_get C hR inX0 1 (by decide) (cz0 rfl) rfl 1 (by decide) 4 rfl (.int (sI σ33 1 1)) rfl dX5_of_112 ?_
                obtain ⟨r115_, σ115_, hc_115, hf⟩ := bd_some hf
                refine x_csI C hl.1 hR hS (c_X1_passedMinutes l G r33 (sI σ33 1 1) σ33 _ hc_115) gX5_of_X1_passedMinutes rfl hdS_X1_passedMinutes ⟨Nat.le_of_ble_eq_true rfl, Nat.le_of_ble_eq_true rfl⟩ rfl (As := [.int r33, .int (sI σ33 1 1)]) (rest := []) rfl (Nat.le_of_ble_eq_true rfl) ⟨Nat.le_of_ble_eq_true rfl, Nat.le_of_ble_eq_true rfl⟩ dX5_of_115 (fun r115 σ115 H locs hq_115 hR hS => ?_)
                obtain ⟨rfl, rfl⟩ := hq_115
                obtain rfl := Option.some.inj hf
                exact x_iret C hR hS dX5_of_118 ⟨rfl, rfl⟩
              · replace hf := (if_neg c_38_4).symm.trans hf
                have n_38_0 : Int32.toInt x2 ≠ 0 := x_ne c_38_0
                have n_38_1 : Int32.toInt x2 ≠ 1 := x_ne c_38_1
                have n_38_2 : Int32.toInt x2 ≠ 2 := x_ne c_38_2
                have n_38_3 : Int32.toInt x2 ≠ 3 := x_ne c_38_3
                have n_38_4 : Int32.toInt x2 ≠ 4 := x_ne c_38_4
                refine lv_tableOut (tgt := 119) hx hb dX5_of_38 (by omega) (by decide) ?_
                refine lv_iload_n hx hb dX5_of_119 rfl (lv_at hl 0 rfl) ?_
                obtain ⟨r120_, σ120_, hc_120, hf⟩ := bd_some hf
                refine x_csI C hl.1 hR hS (c_X1_staysMinutes l G r33 σ33 _ hc_120) gX5_of_X1_staysMinutes rfl hdS_X1_staysMinutes ⟨Nat.le_of_ble_eq_true rfl, Nat.le_of_ble_eq_true rfl⟩ rfl (As := [.int r33]) (rest := []) rfl (Nat.le_of_ble_eq_true rfl) ⟨Nat.le_of_ble_eq_true rfl, Nat.le_of_ble_eq_true rfl⟩ dX5_of_120 (fun r120 σ120 H locs hq_120 hR hS => ?_)
                obtain ⟨rfl, rfl⟩ := hq_120
                obtain rfl := Option.some.inj hf
                exact x_iret C hR hS dX5_of_123 ⟨rfl, rfl⟩
    · replace hf := (if_pos c_17).symm.trans hf
      refine lv_aload_n hx hb dX5_of_20 rfl (lv_at hl 0 rfl) ?_
      obtain ⟨r21_, σ21_, hc_21, hf⟩ := bd_some hf
      refine x_cvI C hl.1 hR hS (c_X5_refusedBad l G σ14 _ hc_21) gX5_of_X5_refusedBad rfl hdV_X5_refusedBad ⟨Nat.le_of_ble_eq_true rfl, Nat.le_of_ble_eq_true rfl⟩ (by decide) (cz4 rfl) rfl rfl (As := []) (rest := []) rfl (Nat.le_of_ble_eq_true rfl) ⟨Nat.le_of_ble_eq_true rfl, Nat.le_of_ble_eq_true rfl⟩ dX5_of_21 (fun r21 σ21 H locs hq_21 hR hS => ?_)
      obtain ⟨rfl, rfl⟩ := hq_21
      obtain rfl := Option.some.inj hf
      exact x_iret C hR hS dX5_of_24 ⟨rfl, rfl⟩
theorem hdV_X5_takes : yX5_takes.cls = RX5 ∧ yX5_takes.cls ≠ "java/lang/invoke/MethodHandle" ∧ yX5_takes.cls ≠ "java/lang/invoke/VarHandle" ∧ (parseMethodDescriptor yX5_takes.desc).map (fun d => d.parameters.length) = some 5 := by decide +kernel
def f_X5_takes (x1 : Int32) (x2 : Int32) (x3 : Int32) (x4 : Int32) (x5 : Int32) (σ : St) : Option (Int32 × St) :=
  bd (f_X5_isRun x1 x2 x3 x4 σ) (fun r5 σ5 => (if r5 = 0 then bd (f_X5_refusedBad σ5) (fun r22 σ22 => some (r22, σ22)) else bd (f_X5_within x5 0 1 σ5) (fun r15 σ15 => (if r15 = 0 then bd (f_X5_refusedBad σ15) (fun r22 σ22 => some (r22, σ22)) else bv (f_X4_tell x1 x2 x3 x4 σ15) (fun σ39 => bd (f_X4_go σ39) (fun r50 σ50 => (if x5 = 0 then some (sI σ50 61 7, σ50) else some (sI σ50 61 8, σ50))))))))
set_option maxHeartbeats 4000000 in
set_option maxRecDepth 100000 in
theorem c_X5_takes (l : Launch) (G : GG) (x1 : Int32) (x2 : Int32) (x3 : Int32) (x4 : Int32) (x5 : Int32) (σ : St) (res : Int32 × St) (hf : f_X5_takes x1 x2 x3 x4 x5 σ = some res) : CI l yX5_takes wsX5_takes 3 [.ref (G.2.1 0), .int x1, .int x2, .int x3, .int x4, .int x5] G σ (fun r u => r = res.1 ∧ u = res.2) := by
  refine x_ent (ret := (some .int)) cX5_takes 6 (by decide) rfl (Nat.le_of_ble_eq_true rfl) ?_
  intro p e s m below meth c ls C hR hS hl
  have C : Cx p s m [.ref (G.2.1 0), .int x1, .int x2, .int x3, .int x4, .int x5].toArray meth c cX5_takes RX5 wsX5_takes (some .int) 6 G := C
  have hx := C.1
  have hb := C.2.1
  have hl : lv_has ls 6 [(0, .ref (G.2.1 0)), (1, .int x1), (2, .int x2), (3, .int x3), (4, .int x4), (5, .int x5)] := hl
  have inX5 : ∀ w ∈ u_ws RX5 TX5 13, w ∈ wsX5_takes := fun w h => List.mem_cons_of_mem _ (List.mem_append_left _ (List.mem_append_left _ (List.mem_append_left _ (List.mem_append_right _ h))))
  have inX4 : ∀ w ∈ u_ws RX4 TX4 14, w ∈ wsX5_takes := fun w h => List.mem_cons_of_mem _ (List.mem_append_left _ (List.mem_append_left _ (List.mem_append_right _ h)))
  unfold f_X5_takes at hf
  refine lv_iload_n hx hb dX5_takes_0 rfl (lv_at hl 1 rfl) ?_
  refine lv_iload_n hx hb dX5_takes_1 rfl (lv_at hl 2 rfl) ?_
  refine lv_iload_n hx hb dX5_takes_2 rfl (lv_at hl 3 rfl) ?_
  refine lv_iload hx hb dX5_takes_3 (lv_at hl 4 rfl) ?_
  obtain ⟨r5_, σ5_, hc_5, hf⟩ := bd_some hf
  refine x_csI C hl.1 hR hS (c_X5_isRun l G x1 x2 x3 x4 σ _ hc_5) gX5_takes_X5_isRun rfl hdS_X5_isRun ⟨Nat.le_of_ble_eq_true rfl, Nat.le_of_ble_eq_true rfl⟩ rfl (As := [.int x1, .int x2, .int x3, .int x4]) (rest := []) rfl (Nat.le_of_ble_eq_true rfl) ⟨Nat.le_of_ble_eq_true rfl, Nat.le_of_ble_eq_true rfl⟩ dX5_takes_5 (fun r5 σ5 H locs hq_5 hR hS => ?_)
  obtain ⟨rfl, rfl⟩ := hq_5
  refine lv_if_eq (tgt := 21) hx hb dX5_takes_8 (by decide) (fun c_8 => ?_) (fun c_8 => ?_)
  · replace hf := (if_pos c_8).symm.trans hf
    refine lv_aload_n hx hb dX5_takes_21 rfl (lv_at hl 0 rfl) ?_
    obtain ⟨r22_, σ22_, hc_22, hf⟩ := bd_some hf
    refine x_cvI C hl.1 hR hS (c_X5_refusedBad l G σ5 _ hc_22) gX5_takes_X5_refusedBad rfl hdV_X5_refusedBad ⟨Nat.le_of_ble_eq_true rfl, Nat.le_of_ble_eq_true rfl⟩ (by decide) (cz4 rfl) rfl rfl (As := []) (rest := []) rfl (Nat.le_of_ble_eq_true rfl) ⟨Nat.le_of_ble_eq_true rfl, Nat.le_of_ble_eq_true rfl⟩ dX5_takes_22 (fun r22 σ22 H locs hq_22 hR hS => ?_)
    obtain ⟨rfl, rfl⟩ := hq_22
    obtain rfl := Option.some.inj hf
    exact x_iret C hR hS dX5_takes_25 ⟨rfl, rfl⟩
  · replace hf := (if_neg c_8).symm.trans hf
    refine lv_iload hx hb dX5_takes_11 (lv_at hl 5 rfl) ?_
    refine lv_iconst (v := 0) hx hb dX5_takes_13 (by decide) ?_
    refine lv_iconst (v := 1) hx hb dX5_takes_14 (by decide) ?_
    obtain ⟨r15_, σ15_, hc_15, hf⟩ := bd_some hf
    refine x_csI C hl.1 hR hS (c_X5_within l G x5 0 1 σ5 _ hc_15) gX5_takes_X5_within rfl hdS_X5_within ⟨Nat.le_of_ble_eq_true rfl, Nat.le_of_ble_eq_true rfl⟩ rfl (As := [.int x5, .int 0, .int 1]) (rest := []) rfl (Nat.le_of_ble_eq_true rfl) ⟨Nat.le_of_ble_eq_true rfl, Nat.le_of_ble_eq_true rfl⟩ dX5_takes_15 (fun r15 σ15 H locs hq_15 hR hS => ?_)
    obtain ⟨rfl, rfl⟩ := hq_15
    refine lv_if_ne (tgt := 26) hx hb dX5_takes_18 (by decide) (fun c_18 => ?_) (fun c_18 => ?_)
    · replace hf := (if_neg c_18).symm.trans hf
      refine lv_aload_n hx hb dX5_takes_26 rfl (lv_at hl 0 rfl) ?_
      refine x_get C hR inX5 0 (by decide) (cz4 rfl) rfl 4 (by decide) 1 rfl (.ref (G.2.1 61)) rfl dX5_takes_27 ?_
      refine lv_aload_n hx hb dX5_takes_30 rfl (lv_at hl 0 rfl) ?_
      refine x_get C hR inX5 0 (by decide) (cz4 rfl) rfl 0 (by decide) 2 rfl (.ref (G.2.1 1)) rfl dX5_takes_31 ?_
      refine lv_iload_n hx hb dX5_takes_34 rfl (lv_at hl 1 rfl) ?_
      refine lv_iload_n hx hb dX5_takes_35 rfl (lv_at hl 2 rfl) ?_
      refine lv_iload_n hx hb dX5_takes_36 rfl (lv_at hl 3 rfl) ?_
      refine lv_iload hx hb dX5_takes_37 (lv_at hl 4 rfl) ?_
      obtain ⟨σ39_, hc_39, hf⟩ := bv_some hf
      refine x_cvV C hl.1 hR hS (c_X4_tell l G x1 x2 x3 x4 σ15 _ hc_39) gX5_takes_X4_tell rfl hdV_X4_tell ⟨Nat.le_of_ble_eq_true rfl, Nat.le_of_ble_eq_true rfl⟩ (by decide) (cz3 rfl) rfl rfl (As := [.ref (G.2.1 1), .int x1, .int x2, .int x3, .int x4]) (rest := []) rfl (Nat.le_of_ble_eq_true rfl) ⟨Nat.le_of_ble_eq_true rfl, Nat.le_of_ble_eq_true rfl⟩ dX5_takes_39 (fun σ39 H locs hq_39 hR hS => ?_)
      subst hq_39
      refine lv_aload_n hx hb dX5_takes_42 rfl (lv_at hl 0 rfl) ?_
      refine x_get C hR inX5 0 (by decide) (cz4 rfl) rfl 4 (by decide) 1 rfl (.ref (G.2.1 61)) rfl dX5_takes_43 ?_
      refine lv_aload_n hx hb dX5_takes_46 rfl (lv_at hl 0 rfl) ?_
      refine x_get C hR inX5 0 (by decide) (cz4 rfl) rfl 0 (by decide) 2 rfl (.ref (G.2.1 1)) rfl dX5_takes_47 ?_
      obtain ⟨r50_, σ50_, hc_50, hf⟩ := bd_some hf
      refine x_cvI C hl.1 hR hS (c_X4_go l G σ39 _ hc_50) gX5_takes_X4_go rfl hdV_X4_go ⟨Nat.le_of_ble_eq_true rfl, Nat.le_of_ble_eq_true rfl⟩ (by decide) (cz3 rfl) rfl rfl (As := [.ref (G.2.1 1)]) (rest := []) rfl (Nat.le_of_ble_eq_true rfl) ⟨Nat.le_of_ble_eq_true rfl, Nat.le_of_ble_eq_true rfl⟩ dX5_takes_50 (fun r50 σ50 H locs hq_50 hR hS => ?_)
      obtain ⟨rfl, rfl⟩ := hq_50
      refine lv_pop hx hb dX5_takes_53 rfl ?_
      refine lv_iload hx hb dX5_takes_54 (lv_at hl 5 rfl) ?_
      refine lv_if_ne (tgt := 69) hx hb dX5_takes_56 (by decide) (fun c_56 => ?_) (fun c_56 => ?_)
      · replace hf := (if_neg c_56).symm.trans hf
        refine lv_aload_n hx hb dX5_takes_69 rfl (lv_at hl 0 rfl) ?_
        refine x_get C hR inX5 0 (by decide) (cz4 rfl) rfl 4 (by decide) 1 rfl (.ref (G.2.1 61)) rfl dX5_takes_70 ?_
        refine x_get C hR inX4 61 (by decide) (cz3 rfl) rfl 8 (by decide) 4 rfl (.int (sI σ50 61 8)) rfl dX5_takes_73 ?_
        obtain rfl := Option.some.inj hf
        exact x_iret C hR hS dX5_takes_76 ⟨rfl, rfl⟩
      · replace hf := (if_pos c_56).symm.trans hf
        refine lv_aload_n hx hb dX5_takes_59 rfl (lv_at hl 0 rfl) ?_
        refine x_get C hR inX5 0 (by decide) (cz4 rfl) rfl 4 (by decide) 1 rfl (.ref (G.2.1 61)) rfl dX5_takes_60 ?_
        refine x_get C hR inX4 61 (by decide) (cz3 rfl) rfl 7 (by decide) 3 rfl (.int (sI σ50 61 7)) rfl dX5_takes_63 ?_
        refine lv_goto (tgt := 76) hx hb dX5_takes_66 (by decide) ?_
        obtain rfl := Option.some.inj hf
        exact x_iret C hR hS dX5_takes_76 ⟨rfl, rfl⟩
    · replace hf := (if_pos c_18).symm.trans hf
      refine lv_aload_n hx hb dX5_takes_21 rfl (lv_at hl 0 rfl) ?_
      obtain ⟨r22_, σ22_, hc_22, hf⟩ := bd_some hf
      refine x_cvI C hl.1 hR hS (c_X5_refusedBad l G σ15 _ hc_22) gX5_takes_X5_refusedBad rfl hdV_X5_refusedBad ⟨Nat.le_of_ble_eq_true rfl, Nat.le_of_ble_eq_true rfl⟩ (by decide) (cz4 rfl) rfl rfl (As := []) (rest := []) rfl (Nat.le_of_ble_eq_true rfl) ⟨Nat.le_of_ble_eq_true rfl, Nat.le_of_ble_eq_true rfl⟩ dX5_takes_22 (fun r22 σ22 H locs hq_22 hR hS => ?_)
      obtain ⟨rfl, rfl⟩ := hq_22
      obtain rfl := Option.some.inj hf
      exact x_iret C hR hS dX5_takes_25 ⟨rfl, rfl⟩
theorem hdV_X5_at : yX5_at.cls = RX5 ∧ yX5_at.cls ≠ "java/lang/invoke/MethodHandle" ∧ yX5_at.cls ≠ "java/lang/invoke/VarHandle" ∧ (parseMethodDescriptor yX5_at.desc).map (fun d => d.parameters.length) = some 6 := by decide +kernel
def f_X5_at (x1 : Int32) (x2 : Int32) (x3 : Int32) (x4 : Int32) (x5 : Int32) (x6 : Int32) (σ : St) : Option (Int32 × St) :=
  bd (f_X5_isRun x1 x2 x3 x4 σ) (fun r5 σ5 => (if r5 = 0 then bd (f_X5_refusedBad σ5) (fun r34 σ34 => some (r34, σ34)) else bd (f_X0_has_1 x5 σ5) (fun r17 σ17 => (if r17 = 0 then bd (f_X5_refusedBad σ17) (fun r34 σ34 => some (r34, σ34)) else bd (f_X5_within x6 0 4 σ17) (fun r27 σ27 => (if r27 = 0 then bd (f_X5_refusedBad σ27) (fun r34 σ34 => some (r34, σ34)) else bv (f_X4_tell x1 x2 x3 x4 σ27) (fun σ51 => bd (f_X4_go σ51) (fun r62 σ62 => (if x6 = 0 then bd (f_X2_get 63 x5 σ62) (fun r109 σ109 => some (r109, σ109)) else (if x6 = 1 then bd (f_X2_get 65 x5 σ62) (fun r122 σ122 => some (r122, σ122)) else (if x6 = 2 then bd (f_X2_get 67 x5 σ62) (fun r135 σ135 => some (r135, σ135)) else (if x6 = 3 then bd (f_X2_get 69 x5 σ62) (fun r148 σ148 => some (r148, σ148)) else bd (f_X2_get 71 x5 σ62) (fun r161 σ161 => some (r161, σ161))))))))))))))
set_option maxHeartbeats 4000000 in
set_option maxRecDepth 100000 in
theorem c_X5_at (l : Launch) (G : GG) (x1 : Int32) (x2 : Int32) (x3 : Int32) (x4 : Int32) (x5 : Int32) (x6 : Int32) (σ : St) (res : Int32 × St) (hf : f_X5_at x1 x2 x3 x4 x5 x6 σ = some res) : CI l yX5_at wsX5_at 3 [.ref (G.2.1 0), .int x1, .int x2, .int x3, .int x4, .int x5, .int x6] G σ (fun r u => r = res.1 ∧ u = res.2) := by
  refine x_ent (ret := (some .int)) cX5_at 7 (by decide) rfl (Nat.le_of_ble_eq_true rfl) ?_
  intro p e s m below meth c ls C hR hS hl
  have C : Cx p s m [.ref (G.2.1 0), .int x1, .int x2, .int x3, .int x4, .int x5, .int x6].toArray meth c cX5_at RX5 wsX5_at (some .int) 7 G := C
  have hx := C.1
  have hb := C.2.1
  have hl : lv_has ls 7 [(0, .ref (G.2.1 0)), (1, .int x1), (2, .int x2), (3, .int x3), (4, .int x4), (5, .int x5), (6, .int x6)] := hl
  have inX5 : ∀ w ∈ u_ws RX5 TX5 13, w ∈ wsX5_at := fun w h => List.mem_cons_of_mem _ (List.mem_append_left _ (List.mem_append_left _ (List.mem_append_left _ (List.mem_append_right _ h))))
  have inX4 : ∀ w ∈ u_ws RX4 TX4 14, w ∈ wsX5_at := fun w h => List.mem_cons_of_mem _ (List.mem_append_left _ (List.mem_append_left _ (List.mem_append_right _ h)))
  unfold f_X5_at at hf
  refine lv_iload_n hx hb dX5_at_0 rfl (lv_at hl 1 rfl) ?_
  refine lv_iload_n hx hb dX5_at_1 rfl (lv_at hl 2 rfl) ?_
  refine lv_iload_n hx hb dX5_at_2 rfl (lv_at hl 3 rfl) ?_
  refine lv_iload hx hb dX5_at_3 (lv_at hl 4 rfl) ?_
  obtain ⟨r5_, σ5_, hc_5, hf⟩ := bd_some hf
  refine x_csI C hl.1 hR hS (c_X5_isRun l G x1 x2 x3 x4 σ _ hc_5) gX5_at_X5_isRun rfl hdS_X5_isRun ⟨Nat.le_of_ble_eq_true rfl, Nat.le_of_ble_eq_true rfl⟩ rfl (As := [.int x1, .int x2, .int x3, .int x4]) (rest := []) rfl (Nat.le_of_ble_eq_true rfl) ⟨Nat.le_of_ble_eq_true rfl, Nat.le_of_ble_eq_true rfl⟩ dX5_at_5 (fun r5 σ5 H locs hq_5 hR hS => ?_)
  obtain ⟨rfl, rfl⟩ := hq_5
  refine lv_if_eq (tgt := 33) hx hb dX5_at_8 (by decide) (fun c_8 => ?_) (fun c_8 => ?_)
  · replace hf := (if_pos c_8).symm.trans hf
    refine lv_aload_n hx hb dX5_at_33 rfl (lv_at hl 0 rfl) ?_
    obtain ⟨r34_, σ34_, hc_34, hf⟩ := bd_some hf
    refine x_cvI C hl.1 hR hS (c_X5_refusedBad l G σ5 _ hc_34) gX5_at_X5_refusedBad rfl hdV_X5_refusedBad ⟨Nat.le_of_ble_eq_true rfl, Nat.le_of_ble_eq_true rfl⟩ (by decide) (cz4 rfl) rfl rfl (As := []) (rest := []) rfl (Nat.le_of_ble_eq_true rfl) ⟨Nat.le_of_ble_eq_true rfl, Nat.le_of_ble_eq_true rfl⟩ dX5_at_34 (fun r34 σ34 H locs hq_34 hR hS => ?_)
    obtain ⟨rfl, rfl⟩ := hq_34
    obtain rfl := Option.some.inj hf
    exact x_iret C hR hS dX5_at_37 ⟨rfl, rfl⟩
  · replace hf := (if_neg c_8).symm.trans hf
    refine lv_aload_n hx hb dX5_at_11 rfl (lv_at hl 0 rfl) ?_
    refine x_get C hR inX5 0 (by decide) (cz4 rfl) rfl 0 (by decide) 1 rfl (.ref (G.2.1 1)) rfl dX5_at_12 ?_
    refine lv_iload hx hb dX5_at_15 (lv_at hl 5 rfl) ?_
    obtain ⟨r17_, σ17_, hc_17, hf⟩ := bd_some hf
    refine x_cvI C hl.1 hR hS (c_X0_has_1 l G x5 σ5 _ hc_17) gX5_at_X0_has rfl hdV_X0_has ⟨Nat.le_of_ble_eq_true rfl, Nat.le_of_ble_eq_true rfl⟩ (by decide) (cz0 rfl) rfl rfl (As := [.int x5]) (rest := []) rfl (Nat.le_of_ble_eq_true rfl) ⟨Nat.le_of_ble_eq_true rfl, Nat.le_of_ble_eq_true rfl⟩ dX5_at_17 (fun r17 σ17 H locs hq_17 hR hS => ?_)
    obtain ⟨rfl, rfl⟩ := hq_17
    refine lv_if_eq (tgt := 33) hx hb dX5_at_20 (by decide) (fun c_20 => ?_) (fun c_20 => ?_)
    · replace hf := (if_pos c_20).symm.trans hf
      refine lv_aload_n hx hb dX5_at_33 rfl (lv_at hl 0 rfl) ?_
      obtain ⟨r34_, σ34_, hc_34, hf⟩ := bd_some hf
      refine x_cvI C hl.1 hR hS (c_X5_refusedBad l G σ17 _ hc_34) gX5_at_X5_refusedBad rfl hdV_X5_refusedBad ⟨Nat.le_of_ble_eq_true rfl, Nat.le_of_ble_eq_true rfl⟩ (by decide) (cz4 rfl) rfl rfl (As := []) (rest := []) rfl (Nat.le_of_ble_eq_true rfl) ⟨Nat.le_of_ble_eq_true rfl, Nat.le_of_ble_eq_true rfl⟩ dX5_at_34 (fun r34 σ34 H locs hq_34 hR hS => ?_)
      obtain ⟨rfl, rfl⟩ := hq_34
      obtain rfl := Option.some.inj hf
      exact x_iret C hR hS dX5_at_37 ⟨rfl, rfl⟩
    · replace hf := (if_neg c_20).symm.trans hf
      refine lv_iload hx hb dX5_at_23 (lv_at hl 6 rfl) ?_
      refine lv_iconst (v := 0) hx hb dX5_at_25 (by decide) ?_
      refine lv_iconst (v := 4) hx hb dX5_at_26 (by decide) ?_
      obtain ⟨r27_, σ27_, hc_27, hf⟩ := bd_some hf
      refine x_csI C hl.1 hR hS (c_X5_within l G x6 0 4 σ17 _ hc_27) gX5_at_X5_within rfl hdS_X5_within ⟨Nat.le_of_ble_eq_true rfl, Nat.le_of_ble_eq_true rfl⟩ rfl (As := [.int x6, .int 0, .int 4]) (rest := []) rfl (Nat.le_of_ble_eq_true rfl) ⟨Nat.le_of_ble_eq_true rfl, Nat.le_of_ble_eq_true rfl⟩ dX5_at_27 (fun r27 σ27 H locs hq_27 hR hS => ?_)
      obtain ⟨rfl, rfl⟩ := hq_27
      refine lv_if_ne (tgt := 38) hx hb dX5_at_30 (by decide) (fun c_30 => ?_) (fun c_30 => ?_)
      · replace hf := (if_neg c_30).symm.trans hf
        refine lv_aload_n hx hb dX5_at_38 rfl (lv_at hl 0 rfl) ?_
        refine x_get C hR inX5 0 (by decide) (cz4 rfl) rfl 4 (by decide) 2 rfl (.ref (G.2.1 61)) rfl dX5_at_39 ?_
        refine lv_aload_n hx hb dX5_at_42 rfl (lv_at hl 0 rfl) ?_
        refine x_get C hR inX5 0 (by decide) (cz4 rfl) rfl 0 (by decide) 1 rfl (.ref (G.2.1 1)) rfl dX5_at_43 ?_
        refine lv_iload_n hx hb dX5_at_46 rfl (lv_at hl 1 rfl) ?_
        refine lv_iload_n hx hb dX5_at_47 rfl (lv_at hl 2 rfl) ?_
        refine lv_iload_n hx hb dX5_at_48 rfl (lv_at hl 3 rfl) ?_
        refine lv_iload hx hb dX5_at_49 (lv_at hl 4 rfl) ?_
        obtain ⟨σ51_, hc_51, hf⟩ := bv_some hf
        refine x_cvV C hl.1 hR hS (c_X4_tell l G x1 x2 x3 x4 σ27 _ hc_51) gX5_at_X4_tell rfl hdV_X4_tell ⟨Nat.le_of_ble_eq_true rfl, Nat.le_of_ble_eq_true rfl⟩ (by decide) (cz3 rfl) rfl rfl (As := [.ref (G.2.1 1), .int x1, .int x2, .int x3, .int x4]) (rest := []) rfl (Nat.le_of_ble_eq_true rfl) ⟨Nat.le_of_ble_eq_true rfl, Nat.le_of_ble_eq_true rfl⟩ dX5_at_51 (fun σ51 H locs hq_51 hR hS => ?_)
        subst hq_51
        refine lv_aload_n hx hb dX5_at_54 rfl (lv_at hl 0 rfl) ?_
        refine x_get C hR inX5 0 (by decide) (cz4 rfl) rfl 4 (by decide) 2 rfl (.ref (G.2.1 61)) rfl dX5_at_55 ?_
        refine lv_aload_n hx hb dX5_at_58 rfl (lv_at hl 0 rfl) ?_
        refine x_get C hR inX5 0 (by decide) (cz4 rfl) rfl 0 (by decide) 1 rfl (.ref (G.2.1 1)) rfl dX5_at_59 ?_
        obtain ⟨r62_, σ62_, hc_62, hf⟩ := bd_some hf
        refine x_cvI C hl.1 hR hS (c_X4_go l G σ51 _ hc_62) gX5_at_X4_go rfl hdV_X4_go ⟨Nat.le_of_ble_eq_true rfl, Nat.le_of_ble_eq_true rfl⟩ (by decide) (cz3 rfl) rfl rfl (As := [.ref (G.2.1 1)]) (rest := []) rfl (Nat.le_of_ble_eq_true rfl) ⟨Nat.le_of_ble_eq_true rfl, Nat.le_of_ble_eq_true rfl⟩ dX5_at_62 (fun r62 σ62 H locs hq_62 hR hS => ?_)
        obtain ⟨rfl, rfl⟩ := hq_62
        refine lv_pop hx hb dX5_at_65 rfl ?_
        refine lv_iload hx hb dX5_at_66 (lv_at hl 6 rfl) ?_
        by_cases c_68_0 : x6 = 0
        · replace hf := (if_pos c_68_0).symm.trans hf
          refine x_tbl (tgt := 100) (off := 32) hx hb c_68_0 dX5_at_68 (by decide) (by decide) (by decide) (by decide) ?_
          refine lv_aload_n hx hb dX5_at_100 rfl (lv_at hl 0 rfl) ?_
          refine x_get C hR inX5 0 (by decide) (cz4 rfl) rfl 4 (by decide) 2 rfl (.ref (G.2.1 61)) rfl dX5_at_101 ?_
          refine x_get C hR inX4 61 (by decide) (cz3 rfl) rfl 9 (by decide) 3 rfl (.ref (G.2.1 62)) rfl dX5_at_104 ?_
          refine lv_iload hx hb dX5_at_107 (lv_at hl 5 rfl) ?_
          obtain ⟨r109_, σ109_, hc_109, hf⟩ := bd_some hf
          refine x_cvI C hl.1 hR hS (c_X2_get l G 63 62 rfl rfl rfl x5 σ62 _ hc_109) gX5_at_X2_get rfl hdV_X2_get ⟨Nat.le_of_ble_eq_true rfl, Nat.le_of_ble_eq_true rfl⟩ (by decide) (cz1 rfl) rfl rfl (As := [.int x5]) (rest := []) rfl (Nat.le_of_ble_eq_true rfl) ⟨Nat.le_of_ble_eq_true rfl, Nat.le_of_ble_eq_true rfl⟩ dX5_at_109 (fun r109 σ109 H locs hq_109 hR hS => ?_)
          obtain ⟨rfl, rfl⟩ := hq_109
          obtain rfl := Option.some.inj hf
          exact x_iret C hR hS dX5_at_112 ⟨rfl, rfl⟩
        · replace hf := (if_neg c_68_0).symm.trans hf
          by_cases c_68_1 : x6 = 1
          · replace hf := (if_pos c_68_1).symm.trans hf
            refine x_tbl (tgt := 113) (off := 45) hx hb c_68_1 dX5_at_68 (by decide) (by decide) (by decide) (by decide) ?_
            refine lv_aload_n hx hb dX5_at_113 rfl (lv_at hl 0 rfl) ?_
            refine x_get C hR inX5 0 (by decide) (cz4 rfl) rfl 4 (by decide) 2 rfl (.ref (G.2.1 61)) rfl dX5_at_114 ?_
            refine x_get C hR inX4 61 (by decide) (cz3 rfl) rfl 10 (by decide) 4 rfl (.ref (G.2.1 64)) rfl dX5_at_117 ?_
            refine lv_iload hx hb dX5_at_120 (lv_at hl 5 rfl) ?_
            obtain ⟨r122_, σ122_, hc_122, hf⟩ := bd_some hf
            refine x_cvI C hl.1 hR hS (c_X2_get l G 65 64 rfl rfl rfl x5 σ62 _ hc_122) gX5_at_X2_get rfl hdV_X2_get ⟨Nat.le_of_ble_eq_true rfl, Nat.le_of_ble_eq_true rfl⟩ (by decide) (cz1 rfl) rfl rfl (As := [.int x5]) (rest := []) rfl (Nat.le_of_ble_eq_true rfl) ⟨Nat.le_of_ble_eq_true rfl, Nat.le_of_ble_eq_true rfl⟩ dX5_at_122 (fun r122 σ122 H locs hq_122 hR hS => ?_)
            obtain ⟨rfl, rfl⟩ := hq_122
            obtain rfl := Option.some.inj hf
            exact x_iret C hR hS dX5_at_125 ⟨rfl, rfl⟩
          · replace hf := (if_neg c_68_1).symm.trans hf
            by_cases c_68_2 : x6 = 2
            · replace hf := (if_pos c_68_2).symm.trans hf
              refine x_tbl (tgt := 126) (off := 58) hx hb c_68_2 dX5_at_68 (by decide) (by decide) (by decide) (by decide) ?_
              refine lv_aload_n hx hb dX5_at_126 rfl (lv_at hl 0 rfl) ?_
              refine x_get C hR inX5 0 (by decide) (cz4 rfl) rfl 4 (by decide) 2 rfl (.ref (G.2.1 61)) rfl dX5_at_127 ?_
              refine x_get C hR inX4 61 (by decide) (cz3 rfl) rfl 11 (by decide) 5 rfl (.ref (G.2.1 66)) rfl dX5_at_130 ?_
              refine lv_iload hx hb dX5_at_133 (lv_at hl 5 rfl) ?_
              obtain ⟨r135_, σ135_, hc_135, hf⟩ := bd_some hf
              refine x_cvI C hl.1 hR hS (c_X2_get l G 67 66 rfl rfl rfl x5 σ62 _ hc_135) gX5_at_X2_get rfl hdV_X2_get ⟨Nat.le_of_ble_eq_true rfl, Nat.le_of_ble_eq_true rfl⟩ (by decide) (cz1 rfl) rfl rfl (As := [.int x5]) (rest := []) rfl (Nat.le_of_ble_eq_true rfl) ⟨Nat.le_of_ble_eq_true rfl, Nat.le_of_ble_eq_true rfl⟩ dX5_at_135 (fun r135 σ135 H locs hq_135 hR hS => ?_)
              obtain ⟨rfl, rfl⟩ := hq_135
              obtain rfl := Option.some.inj hf
              exact x_iret C hR hS dX5_at_138 ⟨rfl, rfl⟩
            · replace hf := (if_neg c_68_2).symm.trans hf
              by_cases c_68_3 : x6 = 3
              · replace hf := (if_pos c_68_3).symm.trans hf
                refine x_tbl (tgt := 139) (off := 71) hx hb c_68_3 dX5_at_68 (by decide) (by decide) (by decide) (by decide) ?_
                refine lv_aload_n hx hb dX5_at_139 rfl (lv_at hl 0 rfl) ?_
                refine x_get C hR inX5 0 (by decide) (cz4 rfl) rfl 4 (by decide) 2 rfl (.ref (G.2.1 61)) rfl dX5_at_140 ?_
                refine x_get C hR inX4 61 (by decide) (cz3 rfl) rfl 12 (by decide) 6 rfl (.ref (G.2.1 68)) rfl dX5_at_143 ?_
                refine lv_iload hx hb dX5_at_146 (lv_at hl 5 rfl) ?_
                obtain ⟨r148_, σ148_, hc_148, hf⟩ := bd_some hf
                refine x_cvI C hl.1 hR hS (c_X2_get l G 69 68 rfl rfl rfl x5 σ62 _ hc_148) gX5_at_X2_get rfl hdV_X2_get ⟨Nat.le_of_ble_eq_true rfl, Nat.le_of_ble_eq_true rfl⟩ (by decide) (cz1 rfl) rfl rfl (As := [.int x5]) (rest := []) rfl (Nat.le_of_ble_eq_true rfl) ⟨Nat.le_of_ble_eq_true rfl, Nat.le_of_ble_eq_true rfl⟩ dX5_at_148 (fun r148 σ148 H locs hq_148 hR hS => ?_)
                obtain ⟨rfl, rfl⟩ := hq_148
                obtain rfl := Option.some.inj hf
                exact x_iret C hR hS dX5_at_151 ⟨rfl, rfl⟩
              · replace hf := (if_neg c_68_3).symm.trans hf
                have n_68_0 : Int32.toInt x6 ≠ 0 := x_ne c_68_0
                have n_68_1 : Int32.toInt x6 ≠ 1 := x_ne c_68_1
                have n_68_2 : Int32.toInt x6 ≠ 2 := x_ne c_68_2
                have n_68_3 : Int32.toInt x6 ≠ 3 := x_ne c_68_3
                refine lv_tableOut (tgt := 152) hx hb dX5_at_68 (by omega) (by decide) ?_
                refine lv_aload_n hx hb dX5_at_152 rfl (lv_at hl 0 rfl) ?_
                refine x_get C hR inX5 0 (by decide) (cz4 rfl) rfl 4 (by decide) 2 rfl (.ref (G.2.1 61)) rfl dX5_at_153 ?_
                refine x_get C hR inX4 61 (by decide) (cz3 rfl) rfl 13 (by decide) 7 rfl (.ref (G.2.1 70)) rfl dX5_at_156 ?_
                refine lv_iload hx hb dX5_at_159 (lv_at hl 5 rfl) ?_
                obtain ⟨r161_, σ161_, hc_161, hf⟩ := bd_some hf
                refine x_cvI C hl.1 hR hS (c_X2_get l G 71 70 rfl rfl rfl x5 σ62 _ hc_161) gX5_at_X2_get rfl hdV_X2_get ⟨Nat.le_of_ble_eq_true rfl, Nat.le_of_ble_eq_true rfl⟩ (by decide) (cz1 rfl) rfl rfl (As := [.int x5]) (rest := []) rfl (Nat.le_of_ble_eq_true rfl) ⟨Nat.le_of_ble_eq_true rfl, Nat.le_of_ble_eq_true rfl⟩ dX5_at_161 (fun r161 σ161 H locs hq_161 hR hS => ?_)
                obtain ⟨rfl, rfl⟩ := hq_161
                obtain rfl := Option.some.inj hf
                exact x_iret C hR hS dX5_at_164 ⟨rfl, rfl⟩
      · replace hf := (if_pos c_30).symm.trans hf
        refine lv_aload_n hx hb dX5_at_33 rfl (lv_at hl 0 rfl) ?_
        obtain ⟨r34_, σ34_, hc_34, hf⟩ := bd_some hf
        refine x_cvI C hl.1 hR hS (c_X5_refusedBad l G σ27 _ hc_34) gX5_at_X5_refusedBad rfl hdV_X5_refusedBad ⟨Nat.le_of_ble_eq_true rfl, Nat.le_of_ble_eq_true rfl⟩ (by decide) (cz4 rfl) rfl rfl (As := []) (rest := []) rfl (Nat.le_of_ble_eq_true rfl) ⟨Nat.le_of_ble_eq_true rfl, Nat.le_of_ble_eq_true rfl⟩ dX5_at_34 (fun r34 σ34 H locs hq_34 hR hS => ?_)
        obtain ⟨rfl, rfl⟩ := hq_34
        obtain rfl := Option.some.inj hf
        exact x_iret C hR hS dX5_at_37 ⟨rfl, rfl⟩
theorem hdS_X5_isLedRun : yX5_isLedRun.cls ≠ "java/lang/invoke/MethodHandle" ∧ yX5_isLedRun.cls ≠ "java/lang/invoke/VarHandle" ∧ (parseMethodDescriptor yX5_isLedRun.desc).map (fun d => d.parameters.length) = some 3 := by decide +kernel
def f_X5_isLedRun (x0 : Int32) (x1 : Int32) (x2 : Int32) (σ : St) : Option (Int32 × St) :=
  bd (f_X5_isRun x0 x1 1 x2 σ) (fun r4 σ4 => (if r4 = 0 then some (0, σ4) else (if x1 = 0 then some (0, σ4) else some (1, σ4))))
set_option maxHeartbeats 4000000 in
set_option maxRecDepth 100000 in
theorem c_X5_isLedRun (l : Launch) (G : GG) (x0 : Int32) (x1 : Int32) (x2 : Int32) (σ : St) (res : Int32 × St) (hf : f_X5_isLedRun x0 x1 x2 σ = some res) : CI l yX5_isLedRun wsX5_isLedRun 2 [.int x0, .int x1, .int x2] G σ (fun r u => r = res.1 ∧ u = res.2) := by
  refine x_ent (ret := (some .boolean)) cX5_isLedRun 3 (by decide) rfl (Nat.le_of_ble_eq_true rfl) ?_
  intro p e s m below meth c ls C hR hS hl
  have C : Cx p s m [.int x0, .int x1, .int x2].toArray meth c cX5_isLedRun RX5 wsX5_isLedRun (some .boolean) 3 G := C
  have hx := C.1
  have hb := C.2.1
  have hl : lv_has ls 3 [(0, .int x0), (1, .int x1), (2, .int x2)] := hl
  unfold f_X5_isLedRun at hf
  refine lv_iload_n hx hb dX5_isLedRun_0 rfl (lv_at hl 0 rfl) ?_
  refine lv_iload_n hx hb dX5_isLedRun_1 rfl (lv_at hl 1 rfl) ?_
  refine lv_iconst (v := 1) hx hb dX5_isLedRun_2 (by decide) ?_
  refine lv_iload_n hx hb dX5_isLedRun_3 rfl (lv_at hl 2 rfl) ?_
  obtain ⟨r4_, σ4_, hc_4, hf⟩ := bd_some hf
  refine x_csI C hl.1 hR hS (c_X5_isRun l G x0 x1 1 x2 σ _ hc_4) gX5_isLedRun_X5_isRun rfl hdS_X5_isRun ⟨Nat.le_of_ble_eq_true rfl, Nat.le_of_ble_eq_true rfl⟩ rfl (As := [.int x0, .int x1, .int 1, .int x2]) (rest := []) rfl (Nat.le_of_ble_eq_true rfl) ⟨Nat.le_of_ble_eq_true rfl, Nat.le_of_ble_eq_true rfl⟩ dX5_isLedRun_4 (fun r4 σ4 H locs hq_4 hR hS => ?_)
  obtain ⟨rfl, rfl⟩ := hq_4
  refine lv_if_eq (tgt := 18) hx hb dX5_isLedRun_7 (by decide) (fun c_7 => ?_) (fun c_7 => ?_)
  · replace hf := (if_pos c_7).symm.trans hf
    refine lv_iconst (v := 0) hx hb dX5_isLedRun_18 (by decide) ?_
    obtain rfl := Option.some.inj hf
    exact x_zret C hR hS dX5_isLedRun_19 (by first | rfl | decide | (simp only []; split <;> rfl)) ⟨rfl, rfl⟩
  · replace hf := (if_neg c_7).symm.trans hf
    refine lv_iload_n hx hb dX5_isLedRun_10 rfl (lv_at hl 1 rfl) ?_
    refine lv_if_eq (tgt := 18) hx hb dX5_isLedRun_11 (by decide) (fun c_11 => ?_) (fun c_11 => ?_)
    · replace hf := (if_pos c_11).symm.trans hf
      refine lv_iconst (v := 0) hx hb dX5_isLedRun_18 (by decide) ?_
      obtain rfl := Option.some.inj hf
      exact x_zret C hR hS dX5_isLedRun_19 (by first | rfl | decide | (simp only []; split <;> rfl)) ⟨rfl, rfl⟩
    · replace hf := (if_neg c_11).symm.trans hf
      refine lv_iconst (v := 1) hx hb dX5_isLedRun_14 (by decide) ?_
      refine lv_goto (tgt := 19) hx hb dX5_isLedRun_15 (by decide) ?_
      obtain rfl := Option.some.inj hf
      exact x_zret C hR hS dX5_isLedRun_19 (by first | rfl | decide | (simp only []; split <;> rfl)) ⟨rfl, rfl⟩
theorem hdV_X5_bestLead : yX5_bestLead.cls = RX5 ∧ yX5_bestLead.cls ≠ "java/lang/invoke/MethodHandle" ∧ yX5_bestLead.cls ≠ "java/lang/invoke/VarHandle" ∧ (parseMethodDescriptor yX5_bestLead.desc).map (fun d => d.parameters.length) = some 3 := by decide +kernel
def f_X5_bestLead_78 (rc34 : Int32 → Int32 → Int32 → St → Option (Int32 × St)) (x4 : Int32) (x5 : Int32) (x6 : Int32) (σ : St) : Option (Int32 × St) :=
  rc34 x4 x5 (x6 + 1) σ
def f_X5_bestLead_34 : Nat → Int32 → Int32 → Int32 → St → Option (Int32 × St)
  | 0, _, _, _, _ => none
  | n + 1, x4, x5, x6, σ => (if 9 < x6 then some (x4, σ) else bd (f_X4_go (pI σ 61 2 x6)) (fun r58 σ58 => (if x5 ≤ r58 then f_X5_bestLead_78 (f_X5_bestLead_34 n) x4 x5 x6 σ58 else f_X5_bestLead_78 (f_X5_bestLead_34 n) x6 r58 x6 σ58)))
def f_X5_bestLead (x1 : Int32) (x2 : Int32) (x3 : Int32) (σ : St) : Option (Int32 × St) :=
  bv (f_X4_tell x1 x2 1 x3 σ) (fun σ12 => bd (f_X4_go σ12) (fun r26 σ26 => f_X5_bestLead_34 FU 1 r26 2 σ26))
set_option maxHeartbeats 4000000 in
set_option maxRecDepth 100000 in
theorem w_X5_bestLead_78 {p : Program} {l : Launch} {e : Env} {s : State} {m : MethodId} {args : Array Value} {below : List Frame} {meth : Method} {c : Code} {G : GG} (C : Cx p s m args meth c cX5_bestLead RX5 wsX5_bestLead (some .int) 8 G) {res : Int32 × St} {rc34 : Int32 → Int32 → Int32 → St → Option (Int32 × St)} (hrc34 : ∀ (x4 : Int32) (x5 : Int32) (x6 : Int32) (σ : St), rc34 x4 x5 x6 σ = some res → WC p l e 3 s m args below meth c G (QI G res) 8 34 [(0, .ref (G.2.1 0)), (4, .int x4), (5, .int x5), (6, .int x6)] [] σ) : ∀ (x4 : Int32) (x5 : Int32) (x6 : Int32) (σ : St), f_X5_bestLead_78 rc34 x4 x5 x6 σ = some res → WC p l e 3 s m args below meth c G (QI G res) 8 78 [(0, .ref (G.2.1 0)), (4, .int x4), (5, .int x5), (6, .int x6)] [] σ := by
  have hx := C.1
  have hb := C.2.1
  have inX5 : ∀ w ∈ u_ws RX5 TX5 13, w ∈ wsX5_bestLead := fun w h => List.mem_cons_of_mem _ (List.mem_append_left _ (List.mem_append_left _ (List.mem_append_left _ (List.mem_append_right _ h))))
  have inX4 : ∀ w ∈ u_ws RX4 TX4 14, w ∈ wsX5_bestLead := fun w h => List.mem_cons_of_mem _ (List.mem_append_left _ (List.mem_append_left _ (List.mem_append_right _ h)))
  intro x4 x5 x6 σ hf _ _ _ hR hS hl
  unfold f_X5_bestLead_78 at hf
  refine lv_iinc (v := x6 + 1) (lv' := [(6, .int (x6 + 1)), (0, .ref (G.2.1 0)), (4, .int x4), (5, .int x5)]) hx hb dX5_bestLead_78 hl (k := 3) rfl rfl (by decide) rfl (fun ls hl => ?_)
  refine lv_goto (tgt := 34) hx hb dX5_bestLead_81 (by decide) ?_
  exact hrc34 x4 x5 (x6 + 1) _ hf _ _ _ hR hS (lv_sub hl [1, 2, 3, 0] rfl)
set_option maxHeartbeats 4000000 in
set_option maxRecDepth 100000 in
theorem w_X5_bestLead_34 {p : Program} {l : Launch} {e : Env} {s : State} {m : MethodId} {args : Array Value} {below : List Frame} {meth : Method} {c : Code} {G : GG} (C : Cx p s m args meth c cX5_bestLead RX5 wsX5_bestLead (some .int) 8 G) {res : Int32 × St} : ∀ (n : Nat) (x4 : Int32) (x5 : Int32) (x6 : Int32) (σ : St), f_X5_bestLead_34 n x4 x5 x6 σ = some res → WC p l e 3 s m args below meth c G (QI G res) 8 34 [(0, .ref (G.2.1 0)), (4, .int x4), (5, .int x5), (6, .int x6)] [] σ := by
  have hx := C.1
  have hb := C.2.1
  have inX5 : ∀ w ∈ u_ws RX5 TX5 13, w ∈ wsX5_bestLead := fun w h => List.mem_cons_of_mem _ (List.mem_append_left _ (List.mem_append_left _ (List.mem_append_left _ (List.mem_append_right _ h))))
  have inX4 : ∀ w ∈ u_ws RX4 TX4 14, w ∈ wsX5_bestLead := fun w h => List.mem_cons_of_mem _ (List.mem_append_left _ (List.mem_append_left _ (List.mem_append_right _ h)))
  intro n
  induction n with
  | zero => intro x4 x5 x6 σ hf; cases hf
  | succ n hrc34 =>
    intro x4 x5 x6 σ hf _ _ _ hR hS hl
    unfold f_X5_bestLead_34 at hf
    refine lv_iload hx hb dX5_bestLead_34 (lv_at hl 3 rfl) ?_
    refine lv_bipush (v := 9) hx hb dX5_bestLead_36 (by decide) ?_
    refine lv_icmp_gt (tgt := 84) hx hb dX5_bestLead_38 (by decide) (fun c_38 => ?_) (fun c_38 => ?_)
    · replace hf := (if_pos c_38).symm.trans hf
      refine lv_iload hx hb dX5_bestLead_84 (lv_at hl 1 rfl) ?_
      obtain rfl := Option.some.inj hf
      exact x_iret C hR hS dX5_bestLead_86 ⟨rfl, rfl⟩
    · replace hf := (if_neg c_38).symm.trans hf
      refine lv_aload_n hx hb dX5_bestLead_41 rfl (lv_at hl 0 rfl) ?_
      refine x_get C hR inX5 0 (by decide) (cz4 rfl) rfl 4 (by decide) 1 rfl (.ref (G.2.1 61)) rfl dX5_bestLead_42 ?_
      refine lv_iload hx hb dX5_bestLead_45 (lv_at hl 3 rfl) ?_
      refine x_put (τ := (pI σ 61 2 x6)) C hR hS inX4 tyX4 tyX4_ok nmX4 61 (by decide) (cz3 rfl) rfl 2 (by decide) (pfI3_2 rfl) pI_o 3 rfl rfl rfl rfl (Nat.le_of_ble_eq_true rfl) dX5_bestLead_47 (fun H locs hR hS => ?_)
      refine lv_aload_n hx hb dX5_bestLead_50 rfl (lv_at hl 0 rfl) ?_
      refine x_get C hR inX5 0 (by decide) (cz4 rfl) rfl 4 (by decide) 1 rfl (.ref (G.2.1 61)) rfl dX5_bestLead_51 ?_
      refine lv_aload_n hx hb dX5_bestLead_54 rfl (lv_at hl 0 rfl) ?_
      refine x_get C hR inX5 0 (by decide) (cz4 rfl) rfl 0 (by decide) 2 rfl (.ref (G.2.1 1)) rfl dX5_bestLead_55 ?_
      obtain ⟨r58_, σ58_, hc_58, hf⟩ := bd_some hf
      refine x_cvI C hl.1 hR hS (c_X4_go l G (pI σ 61 2 x6) _ hc_58) gX5_bestLead_X4_go rfl hdV_X4_go ⟨Nat.le_of_ble_eq_true rfl, Nat.le_of_ble_eq_true rfl⟩ (by decide) (cz3 rfl) rfl rfl (As := [.ref (G.2.1 1)]) (rest := []) rfl (Nat.le_of_ble_eq_true rfl) ⟨Nat.le_of_ble_eq_true rfl, Nat.le_of_ble_eq_true rfl⟩ dX5_bestLead_58 (fun r58 σ58 H locs hq_58 hR hS => ?_)
      obtain ⟨rfl, rfl⟩ := hq_58
      refine lv_istore (lv' := [(7, .int r58), (0, .ref (G.2.1 0)), (4, .int x4), (5, .int x5), (6, .int x6)]) hx hb dX5_bestLead_61 hl (by decide) rfl (fun ls hl => ?_)
      refine lv_iload hx hb dX5_bestLead_63 (lv_at hl 0 rfl) ?_
      refine lv_iload hx hb dX5_bestLead_65 (lv_at hl 3 rfl) ?_
      refine lv_icmp_ge (tgt := 78) hx hb dX5_bestLead_67 (by decide) (fun c_67 => ?_) (fun c_67 => ?_)
      · replace hf := (if_pos c_67).symm.trans hf
        exact w_X5_bestLead_78 C hrc34 x4 x5 x6 _ hf _ _ _ hR hS (lv_sub hl [1, 2, 3, 4] rfl)
      · replace hf := (if_neg c_67).symm.trans hf
        refine lv_iload hx hb dX5_bestLead_70 (lv_at hl 0 rfl) ?_
        refine lv_istore (lv' := [(5, .int r58), (7, .int r58), (0, .ref (G.2.1 0)), (4, .int x4), (6, .int x6)]) hx hb dX5_bestLead_72 hl (by decide) rfl (fun ls hl => ?_)
        refine lv_iload hx hb dX5_bestLead_74 (lv_at hl 4 rfl) ?_
        refine lv_istore (lv' := [(4, .int x6), (5, .int r58), (7, .int r58), (0, .ref (G.2.1 0)), (6, .int x6)]) hx hb dX5_bestLead_76 hl (by decide) rfl (fun ls hl => ?_)
        exact w_X5_bestLead_78 C hrc34 x6 r58 x6 _ hf _ _ _ hR hS (lv_sub hl [3, 0, 1, 4] rfl)
set_option maxHeartbeats 4000000 in
set_option maxRecDepth 100000 in
theorem c_X5_bestLead (l : Launch) (G : GG) (x1 : Int32) (x2 : Int32) (x3 : Int32) (σ : St) (res : Int32 × St) (hf : f_X5_bestLead x1 x2 x3 σ = some res) : CI l yX5_bestLead wsX5_bestLead 3 [.ref (G.2.1 0), .int x1, .int x2, .int x3] G σ (fun r u => r = res.1 ∧ u = res.2) := by
  refine x_ent (ret := (some .int)) cX5_bestLead 8 (by decide) rfl (Nat.le_of_ble_eq_true rfl) ?_
  intro p e s m below meth c ls C hR hS hl
  have C : Cx p s m [.ref (G.2.1 0), .int x1, .int x2, .int x3].toArray meth c cX5_bestLead RX5 wsX5_bestLead (some .int) 8 G := C
  have hx := C.1
  have hb := C.2.1
  have hl : lv_has ls 8 [(0, .ref (G.2.1 0)), (1, .int x1), (2, .int x2), (3, .int x3)] := hl
  have inX5 : ∀ w ∈ u_ws RX5 TX5 13, w ∈ wsX5_bestLead := fun w h => List.mem_cons_of_mem _ (List.mem_append_left _ (List.mem_append_left _ (List.mem_append_left _ (List.mem_append_right _ h))))
  have inX4 : ∀ w ∈ u_ws RX4 TX4 14, w ∈ wsX5_bestLead := fun w h => List.mem_cons_of_mem _ (List.mem_append_left _ (List.mem_append_left _ (List.mem_append_right _ h)))
  unfold f_X5_bestLead at hf
  refine lv_aload_n hx hb dX5_bestLead_0 rfl (lv_at hl 0 rfl) ?_
  refine x_get C hR inX5 0 (by decide) (cz4 rfl) rfl 4 (by decide) 1 rfl (.ref (G.2.1 61)) rfl dX5_bestLead_1 ?_
  refine lv_aload_n hx hb dX5_bestLead_4 rfl (lv_at hl 0 rfl) ?_
  refine x_get C hR inX5 0 (by decide) (cz4 rfl) rfl 0 (by decide) 2 rfl (.ref (G.2.1 1)) rfl dX5_bestLead_5 ?_
  refine lv_iload_n hx hb dX5_bestLead_8 rfl (lv_at hl 1 rfl) ?_
  refine lv_iload_n hx hb dX5_bestLead_9 rfl (lv_at hl 2 rfl) ?_
  refine lv_iconst (v := 1) hx hb dX5_bestLead_10 (by decide) ?_
  refine lv_iload_n hx hb dX5_bestLead_11 rfl (lv_at hl 3 rfl) ?_
  obtain ⟨σ12_, hc_12, hf⟩ := bv_some hf
  refine x_cvV C hl.1 hR hS (c_X4_tell l G x1 x2 1 x3 σ _ hc_12) gX5_bestLead_X4_tell rfl hdV_X4_tell ⟨Nat.le_of_ble_eq_true rfl, Nat.le_of_ble_eq_true rfl⟩ (by decide) (cz3 rfl) rfl rfl (As := [.ref (G.2.1 1), .int x1, .int x2, .int 1, .int x3]) (rest := []) rfl (Nat.le_of_ble_eq_true rfl) ⟨Nat.le_of_ble_eq_true rfl, Nat.le_of_ble_eq_true rfl⟩ dX5_bestLead_12 (fun σ12 H locs hq_12 hR hS => ?_)
  subst hq_12
  refine lv_iconst (v := 1) hx hb dX5_bestLead_15 (by decide) ?_
  refine lv_istore (lv' := [(4, .int 1), (0, .ref (G.2.1 0)), (1, .int x1), (2, .int x2), (3, .int x3)]) hx hb dX5_bestLead_16 hl (by decide) rfl (fun ls hl => ?_)
  refine lv_aload_n hx hb dX5_bestLead_18 rfl (lv_at hl 1 rfl) ?_
  refine x_get C hR inX5 0 (by decide) (cz4 rfl) rfl 4 (by decide) 1 rfl (.ref (G.2.1 61)) rfl dX5_bestLead_19 ?_
  refine lv_aload_n hx hb dX5_bestLead_22 rfl (lv_at hl 1 rfl) ?_
  refine x_get C hR inX5 0 (by decide) (cz4 rfl) rfl 0 (by decide) 2 rfl (.ref (G.2.1 1)) rfl dX5_bestLead_23 ?_
  obtain ⟨r26_, σ26_, hc_26, hf⟩ := bd_some hf
  refine x_cvI C hl.1 hR hS (c_X4_go l G σ12 _ hc_26) gX5_bestLead_X4_go rfl hdV_X4_go ⟨Nat.le_of_ble_eq_true rfl, Nat.le_of_ble_eq_true rfl⟩ (by decide) (cz3 rfl) rfl rfl (As := [.ref (G.2.1 1)]) (rest := []) rfl (Nat.le_of_ble_eq_true rfl) ⟨Nat.le_of_ble_eq_true rfl, Nat.le_of_ble_eq_true rfl⟩ dX5_bestLead_26 (fun r26 σ26 H locs hq_26 hR hS => ?_)
  obtain ⟨rfl, rfl⟩ := hq_26
  refine lv_istore (lv' := [(5, .int r26), (4, .int 1), (0, .ref (G.2.1 0)), (1, .int x1), (2, .int x2), (3, .int x3)]) hx hb dX5_bestLead_29 hl (by decide) rfl (fun ls hl => ?_)
  refine lv_iconst (v := 2) hx hb dX5_bestLead_31 (by decide) ?_
  refine lv_istore (lv' := [(6, .int 2), (5, .int r26), (4, .int 1), (0, .ref (G.2.1 0)), (1, .int x1), (2, .int x2), (3, .int x3)]) hx hb dX5_bestLead_32 hl (by decide) rfl (fun ls hl => ?_)
  exact w_X5_bestLead_34 C  FU 1 r26 2 _ hf _ _ _ hR hS (lv_sub hl [3, 2, 1, 0] rfl)
theorem hdV_X5_lead : yX5_lead.cls = RX5 ∧ yX5_lead.cls ≠ "java/lang/invoke/MethodHandle" ∧ yX5_lead.cls ≠ "java/lang/invoke/VarHandle" ∧ (parseMethodDescriptor yX5_lead.desc).map (fun d => d.parameters.length) = some 3 := by decide +kernel
def f_X5_lead (x1 : Int32) (x2 : Int32) (x3 : Int32) (σ : St) : Option (Int32 × St) :=
  bd (f_X5_isLedRun x1 x2 x3 σ) (fun r3 σ3 => (if r3 = 0 then bd (f_X5_refusedBad σ3) (fun r10 σ10 => some (r10, σ10)) else bd (f_X5_bestLead x1 x2 x3 σ3) (fun r18 σ18 => some (r18, σ18))))
set_option maxHeartbeats 4000000 in
set_option maxRecDepth 100000 in
theorem c_X5_lead (l : Launch) (G : GG) (x1 : Int32) (x2 : Int32) (x3 : Int32) (σ : St) (res : Int32 × St) (hf : f_X5_lead x1 x2 x3 σ = some res) : CI l yX5_lead wsX5_lead 4 [.ref (G.2.1 0), .int x1, .int x2, .int x3] G σ (fun r u => r = res.1 ∧ u = res.2) := by
  refine x_ent (ret := (some .int)) cX5_lead 4 (by decide) rfl (Nat.le_of_ble_eq_true rfl) ?_
  intro p e s m below meth c ls C hR hS hl
  have C : Cx p s m [.ref (G.2.1 0), .int x1, .int x2, .int x3].toArray meth c cX5_lead RX5 wsX5_lead (some .int) 4 G := C
  have hx := C.1
  have hb := C.2.1
  have hl : lv_has ls 4 [(0, .ref (G.2.1 0)), (1, .int x1), (2, .int x2), (3, .int x3)] := hl
  unfold f_X5_lead at hf
  refine lv_iload_n hx hb dX5_lead_0 rfl (lv_at hl 1 rfl) ?_
  refine lv_iload_n hx hb dX5_lead_1 rfl (lv_at hl 2 rfl) ?_
  refine lv_iload_n hx hb dX5_lead_2 rfl (lv_at hl 3 rfl) ?_
  obtain ⟨r3_, σ3_, hc_3, hf⟩ := bd_some hf
  refine x_csI C hl.1 hR hS (c_X5_isLedRun l G x1 x2 x3 σ _ hc_3) gX5_lead_X5_isLedRun rfl hdS_X5_isLedRun ⟨Nat.le_of_ble_eq_true rfl, Nat.le_of_ble_eq_true rfl⟩ rfl (As := [.int x1, .int x2, .int x3]) (rest := []) rfl (Nat.le_of_ble_eq_true rfl) ⟨Nat.le_of_ble_eq_true rfl, Nat.le_of_ble_eq_true rfl⟩ dX5_lead_3 (fun r3 σ3 H locs hq_3 hR hS => ?_)
  obtain ⟨rfl, rfl⟩ := hq_3
  refine lv_if_ne (tgt := 14) hx hb dX5_lead_6 (by decide) (fun c_6 => ?_) (fun c_6 => ?_)
  · replace hf := (if_neg c_6).symm.trans hf
    refine lv_aload_n hx hb dX5_lead_14 rfl (lv_at hl 0 rfl) ?_
    refine lv_iload_n hx hb dX5_lead_15 rfl (lv_at hl 1 rfl) ?_
    refine lv_iload_n hx hb dX5_lead_16 rfl (lv_at hl 2 rfl) ?_
    refine lv_iload_n hx hb dX5_lead_17 rfl (lv_at hl 3 rfl) ?_
    obtain ⟨r18_, σ18_, hc_18, hf⟩ := bd_some hf
    refine x_cvI C hl.1 hR hS (c_X5_bestLead l G x1 x2 x3 σ3 _ hc_18) gX5_lead_X5_bestLead rfl hdV_X5_bestLead ⟨Nat.le_of_ble_eq_true rfl, Nat.le_of_ble_eq_true rfl⟩ (by decide) (cz4 rfl) rfl rfl (As := [.int x1, .int x2, .int x3]) (rest := []) rfl (Nat.le_of_ble_eq_true rfl) ⟨Nat.le_of_ble_eq_true rfl, Nat.le_of_ble_eq_true rfl⟩ dX5_lead_18 (fun r18 σ18 H locs hq_18 hR hS => ?_)
    obtain ⟨rfl, rfl⟩ := hq_18
    obtain rfl := Option.some.inj hf
    exact x_iret C hR hS dX5_lead_21 ⟨rfl, rfl⟩
  · replace hf := (if_pos c_6).symm.trans hf
    refine lv_aload_n hx hb dX5_lead_9 rfl (lv_at hl 0 rfl) ?_
    obtain ⟨r10_, σ10_, hc_10, hf⟩ := bd_some hf
    refine x_cvI C hl.1 hR hS (c_X5_refusedBad l G σ3 _ hc_10) gX5_lead_X5_refusedBad rfl hdV_X5_refusedBad ⟨Nat.le_of_ble_eq_true rfl, Nat.le_of_ble_eq_true rfl⟩ (by decide) (cz4 rfl) rfl rfl (As := []) (rest := []) rfl (Nat.le_of_ble_eq_true rfl) ⟨Nat.le_of_ble_eq_true rfl, Nat.le_of_ble_eq_true rfl⟩ dX5_lead_10 (fun r10 σ10 H locs hq_10 hR hS => ?_)
    obtain ⟨rfl, rfl⟩ := hq_10
    obtain rfl := Option.some.inj hf
    exact x_iret C hR hS dX5_lead_13 ⟨rfl, rfl⟩
theorem hdV_X5_refusedBadFar : yX5_refusedBadFar.cls = RX5 ∧ yX5_refusedBadFar.cls ≠ "java/lang/invoke/MethodHandle" ∧ yX5_refusedBadFar.cls ≠ "java/lang/invoke/VarHandle" ∧ (parseMethodDescriptor yX5_refusedBadFar.desc).map (fun d => d.parameters.length) = some 0 := by decide +kernel
def f_X5_refusedBadFar (σ : St) : Option (Int32 × St) :=
  some ((-1000), (pI σ 0 10 ((sI σ 0 10) + 1)))
set_option maxHeartbeats 4000000 in
set_option maxRecDepth 100000 in
theorem c_X5_refusedBadFar (l : Launch) (G : GG) (σ : St) (res : Int32 × St) (hf : f_X5_refusedBadFar σ = some res) : CI l yX5_refusedBadFar wsX5_refusedBadFar 0 [.ref (G.2.1 0)] G σ (fun r u => r = res.1 ∧ u = res.2) := by
  refine x_ent (ret := (some .int)) cX5_refusedBadFar 1 (by decide) rfl (Nat.le_of_ble_eq_true rfl) ?_
  intro p e s m below meth c ls C hR hS hl
  have C : Cx p s m [.ref (G.2.1 0)].toArray meth c cX5_refusedBadFar RX5 wsX5_refusedBadFar (some .int) 1 G := C
  have hx := C.1
  have hb := C.2.1
  have hl : lv_has ls 1 [(0, .ref (G.2.1 0))] := hl
  have inX5 : ∀ w ∈ u_ws RX5 TX5 13, w ∈ wsX5_refusedBadFar := fun w h => List.mem_cons_of_mem _ (List.mem_append_right _ h)
  unfold f_X5_refusedBadFar at hf
  refine lv_aload_n hx hb dX5_refusedBadFar_0 rfl (lv_at hl 0 rfl) ?_
  refine lv_dup hx hb dX5_refusedBadFar_1 rfl ?_
  refine x_get C hR inX5 0 (by decide) (cz4 rfl) rfl 10 (by decide) 1 rfl (.int (sI σ 0 10)) rfl dX5_refusedBadFar_2 ?_
  refine lv_iconst (v := 1) hx hb dX5_refusedBadFar_5 (by decide) ?_
  refine lv_iadd hx hb dX5_refusedBadFar_6 ?_
  refine x_put (τ := (pI σ 0 10 ((sI σ 0 10) + 1))) C hR hS inX5 tyX5 tyX5_ok nmX5 0 (by decide) (cz4 rfl) rfl 10 (by decide) (pfI4_10 rfl) pI_o 1 rfl rfl rfl rfl (Nat.le_of_ble_eq_true rfl) dX5_refusedBadFar_7 (fun H locs hR hS => ?_)
  refine lv_sipush (v := (-1000)) hx hb dX5_refusedBadFar_10 (by decide) ?_
  obtain rfl := Option.some.inj hf
  exact x_iret C hR hS dX5_refusedBadFar_13 ⟨rfl, rfl⟩
theorem hdV_X5_minutesByBestLead : yX5_minutesByBestLead.cls = RX5 ∧ yX5_minutesByBestLead.cls ≠ "java/lang/invoke/MethodHandle" ∧ yX5_minutesByBestLead.cls ≠ "java/lang/invoke/VarHandle" ∧ (parseMethodDescriptor yX5_minutesByBestLead.desc).map (fun d => d.parameters.length) = some 3 := by decide +kernel
def f_X5_minutesByBestLead (x1 : Int32) (x2 : Int32) (x3 : Int32) (σ : St) : Option (Int32 × St) :=
  bd (f_X5_bestLead x1 x2 x3 σ) (fun r4 σ4 => bv (f_X4_tell x1 x2 r4 x3 σ4) (fun σ22 => bd (f_X4_go σ22) (fun r33 σ33 => some (r33, σ33))))
set_option maxHeartbeats 4000000 in
set_option maxRecDepth 100000 in
theorem c_X5_minutesByBestLead (l : Launch) (G : GG) (x1 : Int32) (x2 : Int32) (x3 : Int32) (σ : St) (res : Int32 × St) (hf : f_X5_minutesByBestLead x1 x2 x3 σ = some res) : CI l yX5_minutesByBestLead wsX5_minutesByBestLead 4 [.ref (G.2.1 0), .int x1, .int x2, .int x3] G σ (fun r u => r = res.1 ∧ u = res.2) := by
  refine x_ent (ret := (some .int)) cX5_minutesByBestLead 5 (by decide) rfl (Nat.le_of_ble_eq_true rfl) ?_
  intro p e s m below meth c ls C hR hS hl
  have C : Cx p s m [.ref (G.2.1 0), .int x1, .int x2, .int x3].toArray meth c cX5_minutesByBestLead RX5 wsX5_minutesByBestLead (some .int) 5 G := C
  have hx := C.1
  have hb := C.2.1
  have hl : lv_has ls 5 [(0, .ref (G.2.1 0)), (1, .int x1), (2, .int x2), (3, .int x3)] := hl
  have inX5 : ∀ w ∈ u_ws RX5 TX5 13, w ∈ wsX5_minutesByBestLead := fun w h => List.mem_cons_of_mem _ (List.mem_append_left _ (List.mem_append_left _ (List.mem_append_left _ (List.mem_append_right _ h))))
  unfold f_X5_minutesByBestLead at hf
  refine lv_aload_n hx hb dX5_minutesByBestLead_0 rfl (lv_at hl 0 rfl) ?_
  refine lv_iload_n hx hb dX5_minutesByBestLead_1 rfl (lv_at hl 1 rfl) ?_
  refine lv_iload_n hx hb dX5_minutesByBestLead_2 rfl (lv_at hl 2 rfl) ?_
  refine lv_iload_n hx hb dX5_minutesByBestLead_3 rfl (lv_at hl 3 rfl) ?_
  obtain ⟨r4_, σ4_, hc_4, hf⟩ := bd_some hf
  refine x_cvI C hl.1 hR hS (c_X5_bestLead l G x1 x2 x3 σ _ hc_4) gX5_minutesByBestLead_X5_bestLead rfl hdV_X5_bestLead ⟨Nat.le_of_ble_eq_true rfl, Nat.le_of_ble_eq_true rfl⟩ (by decide) (cz4 rfl) rfl rfl (As := [.int x1, .int x2, .int x3]) (rest := []) rfl (Nat.le_of_ble_eq_true rfl) ⟨Nat.le_of_ble_eq_true rfl, Nat.le_of_ble_eq_true rfl⟩ dX5_minutesByBestLead_4 (fun r4 σ4 H locs hq_4 hR hS => ?_)
  obtain ⟨rfl, rfl⟩ := hq_4
  refine lv_istore (lv' := [(4, .int r4), (0, .ref (G.2.1 0)), (1, .int x1), (2, .int x2), (3, .int x3)]) hx hb dX5_minutesByBestLead_7 hl (by decide) rfl (fun ls hl => ?_)
  refine lv_aload_n hx hb dX5_minutesByBestLead_9 rfl (lv_at hl 1 rfl) ?_
  refine x_get C hR inX5 0 (by decide) (cz4 rfl) rfl 4 (by decide) 1 rfl (.ref (G.2.1 61)) rfl dX5_minutesByBestLead_10 ?_
  refine lv_aload_n hx hb dX5_minutesByBestLead_13 rfl (lv_at hl 1 rfl) ?_
  refine x_get C hR inX5 0 (by decide) (cz4 rfl) rfl 0 (by decide) 2 rfl (.ref (G.2.1 1)) rfl dX5_minutesByBestLead_14 ?_
  refine lv_iload_n hx hb dX5_minutesByBestLead_17 rfl (lv_at hl 2 rfl) ?_
  refine lv_iload_n hx hb dX5_minutesByBestLead_18 rfl (lv_at hl 3 rfl) ?_
  refine lv_iload hx hb dX5_minutesByBestLead_19 (lv_at hl 0 rfl) ?_
  refine lv_iload_n hx hb dX5_minutesByBestLead_21 rfl (lv_at hl 4 rfl) ?_
  obtain ⟨σ22_, hc_22, hf⟩ := bv_some hf
  refine x_cvV C hl.1 hR hS (c_X4_tell l G x1 x2 r4 x3 σ4 _ hc_22) gX5_minutesByBestLead_X4_tell rfl hdV_X4_tell ⟨Nat.le_of_ble_eq_true rfl, Nat.le_of_ble_eq_true rfl⟩ (by decide) (cz3 rfl) rfl rfl (As := [.ref (G.2.1 1), .int x1, .int x2, .int r4, .int x3]) (rest := []) rfl (Nat.le_of_ble_eq_true rfl) ⟨Nat.le_of_ble_eq_true rfl, Nat.le_of_ble_eq_true rfl⟩ dX5_minutesByBestLead_22 (fun σ22 H locs hq_22 hR hS => ?_)
  subst hq_22
  refine lv_aload_n hx hb dX5_minutesByBestLead_25 rfl (lv_at hl 1 rfl) ?_
  refine x_get C hR inX5 0 (by decide) (cz4 rfl) rfl 4 (by decide) 1 rfl (.ref (G.2.1 61)) rfl dX5_minutesByBestLead_26 ?_
  refine lv_aload_n hx hb dX5_minutesByBestLead_29 rfl (lv_at hl 1 rfl) ?_
  refine x_get C hR inX5 0 (by decide) (cz4 rfl) rfl 0 (by decide) 2 rfl (.ref (G.2.1 1)) rfl dX5_minutesByBestLead_30 ?_
  obtain ⟨r33_, σ33_, hc_33, hf⟩ := bd_some hf
  refine x_cvI C hl.1 hR hS (c_X4_go l G σ22 _ hc_33) gX5_minutesByBestLead_X4_go rfl hdV_X4_go ⟨Nat.le_of_ble_eq_true rfl, Nat.le_of_ble_eq_true rfl⟩ (by decide) (cz3 rfl) rfl rfl (As := [.ref (G.2.1 1)]) (rest := []) rfl (Nat.le_of_ble_eq_true rfl) ⟨Nat.le_of_ble_eq_true rfl, Nat.le_of_ble_eq_true rfl⟩ dX5_minutesByBestLead_33 (fun r33 σ33 H locs hq_33 hR hS => ?_)
  obtain ⟨rfl, rfl⟩ := hq_33
  obtain rfl := Option.some.inj hf
  exact x_iret C hR hS dX5_minutesByBestLead_36 ⟨rfl, rfl⟩
theorem hdV_X5_worth : yX5_worth.cls = RX5 ∧ yX5_worth.cls ≠ "java/lang/invoke/MethodHandle" ∧ yX5_worth.cls ≠ "java/lang/invoke/VarHandle" ∧ (parseMethodDescriptor yX5_worth.desc).map (fun d => d.parameters.length) = some 2 := by decide +kernel
def f_X5_worth (x1 : Int32) (x2 : Int32) (σ : St) : Option (Int32 × St) :=
  bd (f_X5_within x1 0 1 σ) (fun r3 σ3 => (if r3 = 0 then bd (f_X5_refusedBadFar σ3) (fun r19 σ19 => some (r19, σ19)) else bd (f_X5_within x2 0 1 σ3) (fun r12 σ12 => (if r12 = 0 then bd (f_X5_refusedBadFar σ12) (fun r19 σ19 => some (r19, σ19)) else bd (f_X5_minutesByBestLead x1 1 x2 σ12) (fun r27 σ27 => bd (f_X5_minutesByBestLead x1 2 x2 σ27) (fun r34 σ34 => some (r27 - r34, σ34)))))))
set_option maxHeartbeats 4000000 in
set_option maxRecDepth 100000 in
theorem c_X5_worth (l : Launch) (G : GG) (x1 : Int32) (x2 : Int32) (σ : St) (res : Int32 × St) (hf : f_X5_worth x1 x2 σ = some res) : CI l yX5_worth wsX5_worth 5 [.ref (G.2.1 0), .int x1, .int x2] G σ (fun r u => r = res.1 ∧ u = res.2) := by
  refine x_ent (ret := (some .int)) cX5_worth 3 (by decide) rfl (Nat.le_of_ble_eq_true rfl) ?_
  intro p e s m below meth c ls C hR hS hl
  have C : Cx p s m [.ref (G.2.1 0), .int x1, .int x2].toArray meth c cX5_worth RX5 wsX5_worth (some .int) 3 G := C
  have hx := C.1
  have hb := C.2.1
  have hl : lv_has ls 3 [(0, .ref (G.2.1 0)), (1, .int x1), (2, .int x2)] := hl
  unfold f_X5_worth at hf
  refine lv_iload_n hx hb dX5_worth_0 rfl (lv_at hl 1 rfl) ?_
  refine lv_iconst (v := 0) hx hb dX5_worth_1 (by decide) ?_
  refine lv_iconst (v := 1) hx hb dX5_worth_2 (by decide) ?_
  obtain ⟨r3_, σ3_, hc_3, hf⟩ := bd_some hf
  refine x_csI C hl.1 hR hS (c_X5_within l G x1 0 1 σ _ hc_3) gX5_worth_X5_within rfl hdS_X5_within ⟨Nat.le_of_ble_eq_true rfl, Nat.le_of_ble_eq_true rfl⟩ rfl (As := [.int x1, .int 0, .int 1]) (rest := []) rfl (Nat.le_of_ble_eq_true rfl) ⟨Nat.le_of_ble_eq_true rfl, Nat.le_of_ble_eq_true rfl⟩ dX5_worth_3 (fun r3 σ3 H locs hq_3 hR hS => ?_)
  obtain ⟨rfl, rfl⟩ := hq_3
  refine lv_if_eq (tgt := 18) hx hb dX5_worth_6 (by decide) (fun c_6 => ?_) (fun c_6 => ?_)
  · replace hf := (if_pos c_6).symm.trans hf
    refine lv_aload_n hx hb dX5_worth_18 rfl (lv_at hl 0 rfl) ?_
    obtain ⟨r19_, σ19_, hc_19, hf⟩ := bd_some hf
    refine x_cvI C hl.1 hR hS (c_X5_refusedBadFar l G σ3 _ hc_19) gX5_worth_X5_refusedBadFar rfl hdV_X5_refusedBadFar ⟨Nat.le_of_ble_eq_true rfl, Nat.le_of_ble_eq_true rfl⟩ (by decide) (cz4 rfl) rfl rfl (As := []) (rest := []) rfl (Nat.le_of_ble_eq_true rfl) ⟨Nat.le_of_ble_eq_true rfl, Nat.le_of_ble_eq_true rfl⟩ dX5_worth_19 (fun r19 σ19 H locs hq_19 hR hS => ?_)
    obtain ⟨rfl, rfl⟩ := hq_19
    obtain rfl := Option.some.inj hf
    exact x_iret C hR hS dX5_worth_22 ⟨rfl, rfl⟩
  · replace hf := (if_neg c_6).symm.trans hf
    refine lv_iload_n hx hb dX5_worth_9 rfl (lv_at hl 2 rfl) ?_
    refine lv_iconst (v := 0) hx hb dX5_worth_10 (by decide) ?_
    refine lv_iconst (v := 1) hx hb dX5_worth_11 (by decide) ?_
    obtain ⟨r12_, σ12_, hc_12, hf⟩ := bd_some hf
    refine x_csI C hl.1 hR hS (c_X5_within l G x2 0 1 σ3 _ hc_12) gX5_worth_X5_within rfl hdS_X5_within ⟨Nat.le_of_ble_eq_true rfl, Nat.le_of_ble_eq_true rfl⟩ rfl (As := [.int x2, .int 0, .int 1]) (rest := []) rfl (Nat.le_of_ble_eq_true rfl) ⟨Nat.le_of_ble_eq_true rfl, Nat.le_of_ble_eq_true rfl⟩ dX5_worth_12 (fun r12 σ12 H locs hq_12 hR hS => ?_)
    obtain ⟨rfl, rfl⟩ := hq_12
    refine lv_if_ne (tgt := 23) hx hb dX5_worth_15 (by decide) (fun c_15 => ?_) (fun c_15 => ?_)
    · replace hf := (if_neg c_15).symm.trans hf
      refine lv_aload_n hx hb dX5_worth_23 rfl (lv_at hl 0 rfl) ?_
      refine lv_iload_n hx hb dX5_worth_24 rfl (lv_at hl 1 rfl) ?_
      refine lv_iconst (v := 1) hx hb dX5_worth_25 (by decide) ?_
      refine lv_iload_n hx hb dX5_worth_26 rfl (lv_at hl 2 rfl) ?_
      obtain ⟨r27_, σ27_, hc_27, hf⟩ := bd_some hf
      refine x_cvI C hl.1 hR hS (c_X5_minutesByBestLead l G x1 1 x2 σ12 _ hc_27) gX5_worth_X5_minutesByBestLead rfl hdV_X5_minutesByBestLead ⟨Nat.le_of_ble_eq_true rfl, Nat.le_of_ble_eq_true rfl⟩ (by decide) (cz4 rfl) rfl rfl (As := [.int x1, .int 1, .int x2]) (rest := []) rfl (Nat.le_of_ble_eq_true rfl) ⟨Nat.le_of_ble_eq_true rfl, Nat.le_of_ble_eq_true rfl⟩ dX5_worth_27 (fun r27 σ27 H locs hq_27 hR hS => ?_)
      obtain ⟨rfl, rfl⟩ := hq_27
      refine lv_aload_n hx hb dX5_worth_30 rfl (lv_at hl 0 rfl) ?_
      refine lv_iload_n hx hb dX5_worth_31 rfl (lv_at hl 1 rfl) ?_
      refine lv_iconst (v := 2) hx hb dX5_worth_32 (by decide) ?_
      refine lv_iload_n hx hb dX5_worth_33 rfl (lv_at hl 2 rfl) ?_
      obtain ⟨r34_, σ34_, hc_34, hf⟩ := bd_some hf
      refine x_cvI C hl.1 hR hS (c_X5_minutesByBestLead l G x1 2 x2 σ27 _ hc_34) gX5_worth_X5_minutesByBestLead rfl hdV_X5_minutesByBestLead ⟨Nat.le_of_ble_eq_true rfl, Nat.le_of_ble_eq_true rfl⟩ (by decide) (cz4 rfl) rfl rfl (As := [.int x1, .int 2, .int x2]) (rest := [.int r27]) rfl (Nat.le_of_ble_eq_true rfl) ⟨Nat.le_of_ble_eq_true rfl, Nat.le_of_ble_eq_true rfl⟩ dX5_worth_34 (fun r34 σ34 H locs hq_34 hR hS => ?_)
      obtain ⟨rfl, rfl⟩ := hq_34
      refine lv_isub hx hb dX5_worth_37 ?_
      obtain rfl := Option.some.inj hf
      exact x_iret C hR hS dX5_worth_38 ⟨rfl, rfl⟩
    · replace hf := (if_pos c_15).symm.trans hf
      refine lv_aload_n hx hb dX5_worth_18 rfl (lv_at hl 0 rfl) ?_
      obtain ⟨r19_, σ19_, hc_19, hf⟩ := bd_some hf
      refine x_cvI C hl.1 hR hS (c_X5_refusedBadFar l G σ12 _ hc_19) gX5_worth_X5_refusedBadFar rfl hdV_X5_refusedBadFar ⟨Nat.le_of_ble_eq_true rfl, Nat.le_of_ble_eq_true rfl⟩ (by decide) (cz4 rfl) rfl rfl (As := []) (rest := []) rfl (Nat.le_of_ble_eq_true rfl) ⟨Nat.le_of_ble_eq_true rfl, Nat.le_of_ble_eq_true rfl⟩ dX5_worth_19 (fun r19 σ19 H locs hq_19 hR hS => ?_)
      obtain ⟨rfl, rfl⟩ := hq_19
      obtain rfl := Option.some.inj hf
      exact x_iret C hR hS dX5_worth_22 ⟨rfl, rfl⟩
theorem hdV_X5_strong : yX5_strong.cls = RX5 ∧ yX5_strong.cls ≠ "java/lang/invoke/MethodHandle" ∧ yX5_strong.cls ≠ "java/lang/invoke/VarHandle" ∧ (parseMethodDescriptor yX5_strong.desc).map (fun d => d.parameters.length) = some 4 := by decide +kernel
def f_X5_strong_103 (rc59 : Int32 → Int32 → Int32 → St → Option (Int32 × St)) (x5 : Int32) (x6 : Int32) (x7 : Int32) (σ : St) : Option (Int32 × St) :=
  rc59 x5 x6 (x7 + 1) σ
def f_X5_strong_59 : Nat → Int32 → Int32 → Int32 → St → Option (Int32 × St)
  | 0, _, _, _, _ => none
  | n + 1, x5, x6, x7, σ => (if 9 < x7 then some (x5, σ) else bd (f_X4_go (pI σ 61 4 x7)) (fun r83 σ83 => (if x6 ≤ r83 then f_X5_strong_103 (f_X5_strong_59 n) x5 x6 x7 σ83 else f_X5_strong_103 (f_X5_strong_59 n) x7 r83 x7 σ83)))
def f_X5_strong (x1 : Int32) (x2 : Int32) (x3 : Int32) (x4 : Int32) (σ : St) : Option (Int32 × St) :=
  bd (f_X5_isRun x1 x2 x3 x4 σ) (fun r5 σ5 => (if r5 = 0 then bd (f_X5_refusedBad σ5) (fun r12 σ12 => some (r12, σ12)) else bv (f_X4_tell x1 x2 x3 x4 σ5) (fun σ29 => bd (f_X4_go (pI σ29 61 4 0)) (fun r51 σ51 => f_X5_strong_59 FU 0 r51 1 σ51))))
set_option maxHeartbeats 4000000 in
set_option maxRecDepth 100000 in
theorem w_X5_strong_103 {p : Program} {l : Launch} {e : Env} {s : State} {m : MethodId} {args : Array Value} {below : List Frame} {meth : Method} {c : Code} {G : GG} (C : Cx p s m args meth c cX5_strong RX5 wsX5_strong (some .int) 9 G) {res : Int32 × St} {rc59 : Int32 → Int32 → Int32 → St → Option (Int32 × St)} (hrc59 : ∀ (x5 : Int32) (x6 : Int32) (x7 : Int32) (σ : St), rc59 x5 x6 x7 σ = some res → WC p l e 3 s m args below meth c G (QI G res) 9 59 [(0, .ref (G.2.1 0)), (5, .int x5), (6, .int x6), (7, .int x7)] [] σ) : ∀ (x5 : Int32) (x6 : Int32) (x7 : Int32) (σ : St), f_X5_strong_103 rc59 x5 x6 x7 σ = some res → WC p l e 3 s m args below meth c G (QI G res) 9 103 [(0, .ref (G.2.1 0)), (5, .int x5), (6, .int x6), (7, .int x7)] [] σ := by
  have hx := C.1
  have hb := C.2.1
  have inX5 : ∀ w ∈ u_ws RX5 TX5 13, w ∈ wsX5_strong := fun w h => List.mem_cons_of_mem _ (List.mem_append_left _ (List.mem_append_left _ (List.mem_append_left _ (List.mem_append_right _ h))))
  have inX4 : ∀ w ∈ u_ws RX4 TX4 14, w ∈ wsX5_strong := fun w h => List.mem_cons_of_mem _ (List.mem_append_left _ (List.mem_append_left _ (List.mem_append_right _ h)))
  intro x5 x6 x7 σ hf _ _ _ hR hS hl
  unfold f_X5_strong_103 at hf
  refine lv_iinc (v := x7 + 1) (lv' := [(7, .int (x7 + 1)), (0, .ref (G.2.1 0)), (5, .int x5), (6, .int x6)]) hx hb dX5_strong_103 hl (k := 3) rfl rfl (by decide) rfl (fun ls hl => ?_)
  refine lv_goto (tgt := 59) hx hb dX5_strong_106 (by decide) ?_
  exact hrc59 x5 x6 (x7 + 1) _ hf _ _ _ hR hS (lv_sub hl [1, 2, 3, 0] rfl)
set_option maxHeartbeats 4000000 in
set_option maxRecDepth 100000 in
theorem w_X5_strong_59 {p : Program} {l : Launch} {e : Env} {s : State} {m : MethodId} {args : Array Value} {below : List Frame} {meth : Method} {c : Code} {G : GG} (C : Cx p s m args meth c cX5_strong RX5 wsX5_strong (some .int) 9 G) {res : Int32 × St} : ∀ (n : Nat) (x5 : Int32) (x6 : Int32) (x7 : Int32) (σ : St), f_X5_strong_59 n x5 x6 x7 σ = some res → WC p l e 3 s m args below meth c G (QI G res) 9 59 [(0, .ref (G.2.1 0)), (5, .int x5), (6, .int x6), (7, .int x7)] [] σ := by
  have hx := C.1
  have hb := C.2.1
  have inX5 : ∀ w ∈ u_ws RX5 TX5 13, w ∈ wsX5_strong := fun w h => List.mem_cons_of_mem _ (List.mem_append_left _ (List.mem_append_left _ (List.mem_append_left _ (List.mem_append_right _ h))))
  have inX4 : ∀ w ∈ u_ws RX4 TX4 14, w ∈ wsX5_strong := fun w h => List.mem_cons_of_mem _ (List.mem_append_left _ (List.mem_append_left _ (List.mem_append_right _ h)))
  intro n
  induction n with
  | zero => intro x5 x6 x7 σ hf; cases hf
  | succ n hrc59 =>
    intro x5 x6 x7 σ hf _ _ _ hR hS hl
    unfold f_X5_strong_59 at hf
    refine lv_iload hx hb dX5_strong_59 (lv_at hl 3 rfl) ?_
    refine lv_bipush (v := 9) hx hb dX5_strong_61 (by decide) ?_
    refine lv_icmp_gt (tgt := 109) hx hb dX5_strong_63 (by decide) (fun c_63 => ?_) (fun c_63 => ?_)
    · replace hf := (if_pos c_63).symm.trans hf
      refine lv_iload hx hb dX5_strong_109 (lv_at hl 1 rfl) ?_
      obtain rfl := Option.some.inj hf
      exact x_iret C hR hS dX5_strong_111 ⟨rfl, rfl⟩
    · replace hf := (if_neg c_63).symm.trans hf
      refine lv_aload_n hx hb dX5_strong_66 rfl (lv_at hl 0 rfl) ?_
      refine x_get C hR inX5 0 (by decide) (cz4 rfl) rfl 4 (by decide) 1 rfl (.ref (G.2.1 61)) rfl dX5_strong_67 ?_
      refine lv_iload hx hb dX5_strong_70 (lv_at hl 3 rfl) ?_
      refine x_put (τ := (pI σ 61 4 x7)) C hR hS inX4 tyX4 tyX4_ok nmX4 61 (by decide) (cz3 rfl) rfl 4 (by decide) (pfI3_4 rfl) pI_o 3 rfl rfl rfl rfl (Nat.le_of_ble_eq_true rfl) dX5_strong_72 (fun H locs hR hS => ?_)
      refine lv_aload_n hx hb dX5_strong_75 rfl (lv_at hl 0 rfl) ?_
      refine x_get C hR inX5 0 (by decide) (cz4 rfl) rfl 4 (by decide) 1 rfl (.ref (G.2.1 61)) rfl dX5_strong_76 ?_
      refine lv_aload_n hx hb dX5_strong_79 rfl (lv_at hl 0 rfl) ?_
      refine x_get C hR inX5 0 (by decide) (cz4 rfl) rfl 0 (by decide) 2 rfl (.ref (G.2.1 1)) rfl dX5_strong_80 ?_
      obtain ⟨r83_, σ83_, hc_83, hf⟩ := bd_some hf
      refine x_cvI C hl.1 hR hS (c_X4_go l G (pI σ 61 4 x7) _ hc_83) gX5_strong_X4_go rfl hdV_X4_go ⟨Nat.le_of_ble_eq_true rfl, Nat.le_of_ble_eq_true rfl⟩ (by decide) (cz3 rfl) rfl rfl (As := [.ref (G.2.1 1)]) (rest := []) rfl (Nat.le_of_ble_eq_true rfl) ⟨Nat.le_of_ble_eq_true rfl, Nat.le_of_ble_eq_true rfl⟩ dX5_strong_83 (fun r83 σ83 H locs hq_83 hR hS => ?_)
      obtain ⟨rfl, rfl⟩ := hq_83
      refine lv_istore (lv' := [(8, .int r83), (0, .ref (G.2.1 0)), (5, .int x5), (6, .int x6), (7, .int x7)]) hx hb dX5_strong_86 hl (by decide) rfl (fun ls hl => ?_)
      refine lv_iload hx hb dX5_strong_88 (lv_at hl 0 rfl) ?_
      refine lv_iload hx hb dX5_strong_90 (lv_at hl 3 rfl) ?_
      refine lv_icmp_ge (tgt := 103) hx hb dX5_strong_92 (by decide) (fun c_92 => ?_) (fun c_92 => ?_)
      · replace hf := (if_pos c_92).symm.trans hf
        exact w_X5_strong_103 C hrc59 x5 x6 x7 _ hf _ _ _ hR hS (lv_sub hl [1, 2, 3, 4] rfl)
      · replace hf := (if_neg c_92).symm.trans hf
        refine lv_iload hx hb dX5_strong_95 (lv_at hl 0 rfl) ?_
        refine lv_istore (lv' := [(6, .int r83), (8, .int r83), (0, .ref (G.2.1 0)), (5, .int x5), (7, .int x7)]) hx hb dX5_strong_97 hl (by decide) rfl (fun ls hl => ?_)
        refine lv_iload hx hb dX5_strong_99 (lv_at hl 4 rfl) ?_
        refine lv_istore (lv' := [(5, .int x7), (6, .int r83), (8, .int r83), (0, .ref (G.2.1 0)), (7, .int x7)]) hx hb dX5_strong_101 hl (by decide) rfl (fun ls hl => ?_)
        exact w_X5_strong_103 C hrc59 x7 r83 x7 _ hf _ _ _ hR hS (lv_sub hl [3, 0, 1, 4] rfl)
set_option maxHeartbeats 4000000 in
set_option maxRecDepth 100000 in
theorem c_X5_strong (l : Launch) (G : GG) (x1 : Int32) (x2 : Int32) (x3 : Int32) (x4 : Int32) (σ : St) (res : Int32 × St) (hf : f_X5_strong x1 x2 x3 x4 σ = some res) : CI l yX5_strong wsX5_strong 3 [.ref (G.2.1 0), .int x1, .int x2, .int x3, .int x4] G σ (fun r u => r = res.1 ∧ u = res.2) := by
  refine x_ent (ret := (some .int)) cX5_strong 9 (by decide) rfl (Nat.le_of_ble_eq_true rfl) ?_
  intro p e s m below meth c ls C hR hS hl
  have C : Cx p s m [.ref (G.2.1 0), .int x1, .int x2, .int x3, .int x4].toArray meth c cX5_strong RX5 wsX5_strong (some .int) 9 G := C
  have hx := C.1
  have hb := C.2.1
  have hl : lv_has ls 9 [(0, .ref (G.2.1 0)), (1, .int x1), (2, .int x2), (3, .int x3), (4, .int x4)] := hl
  have inX5 : ∀ w ∈ u_ws RX5 TX5 13, w ∈ wsX5_strong := fun w h => List.mem_cons_of_mem _ (List.mem_append_left _ (List.mem_append_left _ (List.mem_append_left _ (List.mem_append_right _ h))))
  have inX4 : ∀ w ∈ u_ws RX4 TX4 14, w ∈ wsX5_strong := fun w h => List.mem_cons_of_mem _ (List.mem_append_left _ (List.mem_append_left _ (List.mem_append_right _ h)))
  unfold f_X5_strong at hf
  refine lv_iload_n hx hb dX5_strong_0 rfl (lv_at hl 1 rfl) ?_
  refine lv_iload_n hx hb dX5_strong_1 rfl (lv_at hl 2 rfl) ?_
  refine lv_iload_n hx hb dX5_strong_2 rfl (lv_at hl 3 rfl) ?_
  refine lv_iload hx hb dX5_strong_3 (lv_at hl 4 rfl) ?_
  obtain ⟨r5_, σ5_, hc_5, hf⟩ := bd_some hf
  refine x_csI C hl.1 hR hS (c_X5_isRun l G x1 x2 x3 x4 σ _ hc_5) gX5_strong_X5_isRun rfl hdS_X5_isRun ⟨Nat.le_of_ble_eq_true rfl, Nat.le_of_ble_eq_true rfl⟩ rfl (As := [.int x1, .int x2, .int x3, .int x4]) (rest := []) rfl (Nat.le_of_ble_eq_true rfl) ⟨Nat.le_of_ble_eq_true rfl, Nat.le_of_ble_eq_true rfl⟩ dX5_strong_5 (fun r5 σ5 H locs hq_5 hR hS => ?_)
  obtain ⟨rfl, rfl⟩ := hq_5
  refine lv_if_ne (tgt := 16) hx hb dX5_strong_8 (by decide) (fun c_8 => ?_) (fun c_8 => ?_)
  · replace hf := (if_neg c_8).symm.trans hf
    refine lv_aload_n hx hb dX5_strong_16 rfl (lv_at hl 0 rfl) ?_
    refine x_get C hR inX5 0 (by decide) (cz4 rfl) rfl 4 (by decide) 1 rfl (.ref (G.2.1 61)) rfl dX5_strong_17 ?_
    refine lv_aload_n hx hb dX5_strong_20 rfl (lv_at hl 0 rfl) ?_
    refine x_get C hR inX5 0 (by decide) (cz4 rfl) rfl 0 (by decide) 2 rfl (.ref (G.2.1 1)) rfl dX5_strong_21 ?_
    refine lv_iload_n hx hb dX5_strong_24 rfl (lv_at hl 1 rfl) ?_
    refine lv_iload_n hx hb dX5_strong_25 rfl (lv_at hl 2 rfl) ?_
    refine lv_iload_n hx hb dX5_strong_26 rfl (lv_at hl 3 rfl) ?_
    refine lv_iload hx hb dX5_strong_27 (lv_at hl 4 rfl) ?_
    obtain ⟨σ29_, hc_29, hf⟩ := bv_some hf
    refine x_cvV C hl.1 hR hS (c_X4_tell l G x1 x2 x3 x4 σ5 _ hc_29) gX5_strong_X4_tell rfl hdV_X4_tell ⟨Nat.le_of_ble_eq_true rfl, Nat.le_of_ble_eq_true rfl⟩ (by decide) (cz3 rfl) rfl rfl (As := [.ref (G.2.1 1), .int x1, .int x2, .int x3, .int x4]) (rest := []) rfl (Nat.le_of_ble_eq_true rfl) ⟨Nat.le_of_ble_eq_true rfl, Nat.le_of_ble_eq_true rfl⟩ dX5_strong_29 (fun σ29 H locs hq_29 hR hS => ?_)
    subst hq_29
    refine lv_aload_n hx hb dX5_strong_32 rfl (lv_at hl 0 rfl) ?_
    refine x_get C hR inX5 0 (by decide) (cz4 rfl) rfl 4 (by decide) 1 rfl (.ref (G.2.1 61)) rfl dX5_strong_33 ?_
    refine lv_iconst (v := 0) hx hb dX5_strong_36 (by decide) ?_
    refine x_put (τ := (pI σ29 61 4 0)) C hR hS inX4 tyX4 tyX4_ok nmX4 61 (by decide) (cz3 rfl) rfl 4 (by decide) (pfI3_4 rfl) pI_o 3 rfl rfl rfl rfl (Nat.le_of_ble_eq_true rfl) dX5_strong_37 (fun H locs hR hS => ?_)
    refine lv_iconst (v := 0) hx hb dX5_strong_40 (by decide) ?_
    refine lv_istore (lv' := [(5, .int 0), (0, .ref (G.2.1 0)), (1, .int x1), (2, .int x2), (3, .int x3), (4, .int x4)]) hx hb dX5_strong_41 hl (by decide) rfl (fun ls hl => ?_)
    refine lv_aload_n hx hb dX5_strong_43 rfl (lv_at hl 1 rfl) ?_
    refine x_get C hR inX5 0 (by decide) (cz4 rfl) rfl 4 (by decide) 1 rfl (.ref (G.2.1 61)) rfl dX5_strong_44 ?_
    refine lv_aload_n hx hb dX5_strong_47 rfl (lv_at hl 1 rfl) ?_
    refine x_get C hR inX5 0 (by decide) (cz4 rfl) rfl 0 (by decide) 2 rfl (.ref (G.2.1 1)) rfl dX5_strong_48 ?_
    obtain ⟨r51_, σ51_, hc_51, hf⟩ := bd_some hf
    refine x_cvI C hl.1 hR hS (c_X4_go l G (pI σ29 61 4 0) _ hc_51) gX5_strong_X4_go rfl hdV_X4_go ⟨Nat.le_of_ble_eq_true rfl, Nat.le_of_ble_eq_true rfl⟩ (by decide) (cz3 rfl) rfl rfl (As := [.ref (G.2.1 1)]) (rest := []) rfl (Nat.le_of_ble_eq_true rfl) ⟨Nat.le_of_ble_eq_true rfl, Nat.le_of_ble_eq_true rfl⟩ dX5_strong_51 (fun r51 σ51 H locs hq_51 hR hS => ?_)
    obtain ⟨rfl, rfl⟩ := hq_51
    refine lv_istore (lv' := [(6, .int r51), (5, .int 0), (0, .ref (G.2.1 0)), (1, .int x1), (2, .int x2), (3, .int x3), (4, .int x4)]) hx hb dX5_strong_54 hl (by decide) rfl (fun ls hl => ?_)
    refine lv_iconst (v := 1) hx hb dX5_strong_56 (by decide) ?_
    refine lv_istore (lv' := [(7, .int 1), (6, .int r51), (5, .int 0), (0, .ref (G.2.1 0)), (1, .int x1), (2, .int x2), (3, .int x3), (4, .int x4)]) hx hb dX5_strong_57 hl (by decide) rfl (fun ls hl => ?_)
    exact w_X5_strong_59 C  FU 0 r51 1 _ hf _ _ _ hR hS (lv_sub hl [3, 2, 1, 0] rfl)
  · replace hf := (if_pos c_8).symm.trans hf
    refine lv_aload_n hx hb dX5_strong_11 rfl (lv_at hl 0 rfl) ?_
    obtain ⟨r12_, σ12_, hc_12, hf⟩ := bd_some hf
    refine x_cvI C hl.1 hR hS (c_X5_refusedBad l G σ5 _ hc_12) gX5_strong_X5_refusedBad rfl hdV_X5_refusedBad ⟨Nat.le_of_ble_eq_true rfl, Nat.le_of_ble_eq_true rfl⟩ (by decide) (cz4 rfl) rfl rfl (As := []) (rest := []) rfl (Nat.le_of_ble_eq_true rfl) ⟨Nat.le_of_ble_eq_true rfl, Nat.le_of_ble_eq_true rfl⟩ dX5_strong_12 (fun r12 σ12 H locs hq_12 hR hS => ?_)
    obtain ⟨rfl, rfl⟩ := hq_12
    obtain rfl := Option.some.inj hf
    exact x_iret C hR hS dX5_strong_15 ⟨rfl, rfl⟩
theorem hdV_X5_hire : yX5_hire.cls = RX5 ∧ yX5_hire.cls ≠ "java/lang/invoke/MethodHandle" ∧ yX5_hire.cls ≠ "java/lang/invoke/VarHandle" ∧ (parseMethodDescriptor yX5_hire.desc).map (fun d => d.parameters.length) = some 5 := by decide +kernel
def f_X5_hire_146 (rc78 : Int32 → Int32 → Int32 → Int32 → Int32 → Int32 → St → Option (Int32 × St)) (x4 : Int32) (x5 : Int32) (x6 : Int32) (x7 : Int32) (x8 : Int32) (x9 : Int32) (σ : St) : Option (Int32 × St) :=
  rc78 x4 x5 x6 x7 x8 (x9 + 1) σ
def f_X5_hire_138 (rc78 : Int32 → Int32 → Int32 → Int32 → Int32 → Int32 → St → Option (Int32 × St)) (x4 : Int32) (x5 : Int32) (x8 : Int32) (x9 : Int32) (x11 : Int32) (σ : St) : Option (Int32 × St) :=
  f_X5_hire_146 rc78 x4 x5 x9 x11 x8 x9 σ
def f_X5_hire_78 : Nat → Int32 → Int32 → Int32 → Int32 → Int32 → Int32 → St → Option (Int32 × St)
  | 0, _, _, _, _, _, _, _ => none
  | n + 1, x4, x5, x6, x7, x8, x9, σ => (if x8 < x9 then (if x5 = 0 then some (x6, σ) else some (x7, σ)) else bd (f_J6_bitCount_0f7a4 x9 σ) (fun r87 σ87 => (if x4 < r87 then f_X5_hire_146 (f_X5_hire_78 n) x4 x5 x6 x7 x8 x9 σ87 else bd (f_X4_goWithRight x9 σ87) (fun r109 σ109 => (if r109 < x7 then f_X5_hire_138 (f_X5_hire_78 n) x4 x5 x8 x9 r109 σ109 else (if r109 = x7 then bd (f_J6_bitCount_0f7a4 x6 σ109) (fun r132 σ132 => (if r132 ≤ r87 then f_X5_hire_146 (f_X5_hire_78 n) x4 x5 x6 x7 x8 x9 σ132 else f_X5_hire_138 (f_X5_hire_78 n) x4 x5 x8 x9 r109 σ132)) else f_X5_hire_146 (f_X5_hire_78 n) x4 x5 x6 x7 x8 x9 σ109))))))
def f_X5_hire (x1 : Int32) (x2 : Int32) (x3 : Int32) (x4 : Int32) (x5 : Int32) (σ : St) : Option (Int32 × St) :=
  bd (f_X5_isRun x1 x2 x3 0 σ) (fun r4 σ4 => (if r4 = 0 then bd (f_X5_refusedBad σ4) (fun r31 σ31 => some (r31, σ31)) else bd (f_X5_within x4 0 3 σ4) (fun r14 σ14 => (if r14 = 0 then bd (f_X5_refusedBad σ14) (fun r31 σ31 => some (r31, σ31)) else bd (f_X5_within x5 0 1 σ14) (fun r24 σ24 => (if r24 = 0 then bd (f_X5_refusedBad σ24) (fun r31 σ31 => some (r31, σ31)) else bv (f_X4_tell x1 x2 x3 0 σ24) (fun σ47 => bd (f_X4_go σ47) (fun r61 σ61 => bd (f_X0_allLocks_1 σ61) (fun r70 σ70 => f_X5_hire_78 FU x4 x5 0 r61 r70 1 σ70)))))))))
set_option maxHeartbeats 4000000 in
set_option maxRecDepth 100000 in
theorem w_X5_hire_146 {p : Program} {l : Launch} {e : Env} {s : State} {m : MethodId} {args : Array Value} {below : List Frame} {meth : Method} {c : Code} {G : GG} (C : Cx p s m args meth c cX5_hire RX5 wsX5_hire (some .int) 12 G) {res : Int32 × St} {rc78 : Int32 → Int32 → Int32 → Int32 → Int32 → Int32 → St → Option (Int32 × St)} (hrc78 : ∀ (x4 : Int32) (x5 : Int32) (x6 : Int32) (x7 : Int32) (x8 : Int32) (x9 : Int32) (σ : St), rc78 x4 x5 x6 x7 x8 x9 σ = some res → WC p l e 4 s m args below meth c G (QI G res) 12 78 [(0, .ref (G.2.1 0)), (4, .int x4), (5, .int x5), (6, .int x6), (7, .int x7), (8, .int x8), (9, .int x9)] [] σ) : ∀ (x4 : Int32) (x5 : Int32) (x6 : Int32) (x7 : Int32) (x8 : Int32) (x9 : Int32) (σ : St), f_X5_hire_146 rc78 x4 x5 x6 x7 x8 x9 σ = some res → WC p l e 4 s m args below meth c G (QI G res) 12 146 [(0, .ref (G.2.1 0)), (4, .int x4), (5, .int x5), (6, .int x6), (7, .int x7), (8, .int x8), (9, .int x9)] [] σ := by
  have hx := C.1
  have hb := C.2.1
  have inX5 : ∀ w ∈ u_ws RX5 TX5 13, w ∈ wsX5_hire := fun w h => List.mem_cons_of_mem _ (List.mem_append_left _ (List.mem_append_left _ (List.mem_append_left _ (List.mem_append_right _ h))))
  intro x4 x5 x6 x7 x8 x9 σ hf _ _ _ hR hS hl
  unfold f_X5_hire_146 at hf
  refine lv_iinc (v := x9 + 1) (lv' := [(9, .int (x9 + 1)), (0, .ref (G.2.1 0)), (4, .int x4), (5, .int x5), (6, .int x6), (7, .int x7), (8, .int x8)]) hx hb dX5_hire_146 hl (k := 6) rfl rfl (by decide) rfl (fun ls hl => ?_)
  refine lv_goto (tgt := 78) hx hb dX5_hire_149 (by decide) ?_
  exact hrc78 x4 x5 x6 x7 x8 (x9 + 1) _ hf _ _ _ hR hS (lv_sub hl [1, 2, 3, 4, 5, 6, 0] rfl)
set_option maxHeartbeats 4000000 in
set_option maxRecDepth 100000 in
theorem w_X5_hire_138 {p : Program} {l : Launch} {e : Env} {s : State} {m : MethodId} {args : Array Value} {below : List Frame} {meth : Method} {c : Code} {G : GG} (C : Cx p s m args meth c cX5_hire RX5 wsX5_hire (some .int) 12 G) {res : Int32 × St} {rc78 : Int32 → Int32 → Int32 → Int32 → Int32 → Int32 → St → Option (Int32 × St)} (hrc78 : ∀ (x4 : Int32) (x5 : Int32) (x6 : Int32) (x7 : Int32) (x8 : Int32) (x9 : Int32) (σ : St), rc78 x4 x5 x6 x7 x8 x9 σ = some res → WC p l e 4 s m args below meth c G (QI G res) 12 78 [(0, .ref (G.2.1 0)), (4, .int x4), (5, .int x5), (6, .int x6), (7, .int x7), (8, .int x8), (9, .int x9)] [] σ) : ∀ (x4 : Int32) (x5 : Int32) (x8 : Int32) (x9 : Int32) (x11 : Int32) (σ : St), f_X5_hire_138 rc78 x4 x5 x8 x9 x11 σ = some res → WC p l e 4 s m args below meth c G (QI G res) 12 138 [(0, .ref (G.2.1 0)), (4, .int x4), (5, .int x5), (8, .int x8), (9, .int x9), (11, .int x11)] [] σ := by
  have hx := C.1
  have hb := C.2.1
  have inX5 : ∀ w ∈ u_ws RX5 TX5 13, w ∈ wsX5_hire := fun w h => List.mem_cons_of_mem _ (List.mem_append_left _ (List.mem_append_left _ (List.mem_append_left _ (List.mem_append_right _ h))))
  intro x4 x5 x8 x9 x11 σ hf _ _ _ hR hS hl
  unfold f_X5_hire_138 at hf
  refine lv_iload hx hb dX5_hire_138 (lv_at hl 5 rfl) ?_
  refine lv_istore (lv' := [(7, .int x11), (0, .ref (G.2.1 0)), (4, .int x4), (5, .int x5), (8, .int x8), (9, .int x9), (11, .int x11)]) hx hb dX5_hire_140 hl (by decide) rfl (fun ls hl => ?_)
  refine lv_iload hx hb dX5_hire_142 (lv_at hl 5 rfl) ?_
  refine lv_istore (lv' := [(6, .int x9), (7, .int x11), (0, .ref (G.2.1 0)), (4, .int x4), (5, .int x5), (8, .int x8), (9, .int x9), (11, .int x11)]) hx hb dX5_hire_144 hl (by decide) rfl (fun ls hl => ?_)
  exact w_X5_hire_146 C hrc78 x4 x5 x9 x11 x8 x9 _ hf _ _ _ hR hS (lv_sub hl [2, 3, 4, 0, 1, 5, 6] rfl)
set_option maxHeartbeats 4000000 in
set_option maxRecDepth 100000 in
theorem w_X5_hire_78 {p : Program} {l : Launch} {e : Env} {s : State} {m : MethodId} {args : Array Value} {below : List Frame} {meth : Method} {c : Code} {G : GG} (C : Cx p s m args meth c cX5_hire RX5 wsX5_hire (some .int) 12 G) {res : Int32 × St} : ∀ (n : Nat) (x4 : Int32) (x5 : Int32) (x6 : Int32) (x7 : Int32) (x8 : Int32) (x9 : Int32) (σ : St), f_X5_hire_78 n x4 x5 x6 x7 x8 x9 σ = some res → WC p l e 4 s m args below meth c G (QI G res) 12 78 [(0, .ref (G.2.1 0)), (4, .int x4), (5, .int x5), (6, .int x6), (7, .int x7), (8, .int x8), (9, .int x9)] [] σ := by
  have hx := C.1
  have hb := C.2.1
  have inX5 : ∀ w ∈ u_ws RX5 TX5 13, w ∈ wsX5_hire := fun w h => List.mem_cons_of_mem _ (List.mem_append_left _ (List.mem_append_left _ (List.mem_append_left _ (List.mem_append_right _ h))))
  intro n
  induction n with
  | zero => intro x4 x5 x6 x7 x8 x9 σ hf; cases hf
  | succ n hrc78 =>
    intro x4 x5 x6 x7 x8 x9 σ hf _ _ _ hR hS hl
    unfold f_X5_hire_78 at hf
    refine lv_iload hx hb dX5_hire_78 (lv_at hl 6 rfl) ?_
    refine lv_iload hx hb dX5_hire_80 (lv_at hl 5 rfl) ?_
    refine lv_icmp_gt (tgt := 152) hx hb dX5_hire_82 (by decide) (fun c_82 => ?_) (fun c_82 => ?_)
    · replace hf := (if_pos c_82).symm.trans hf
      refine lv_iload hx hb dX5_hire_152 (lv_at hl 2 rfl) ?_
      refine lv_if_ne (tgt := 162) hx hb dX5_hire_154 (by decide) (fun c_154 => ?_) (fun c_154 => ?_)
      · replace hf := (if_neg c_154).symm.trans hf
        refine lv_iload hx hb dX5_hire_162 (lv_at hl 4 rfl) ?_
        obtain rfl := Option.some.inj hf
        exact x_iret C hR hS dX5_hire_164 ⟨rfl, rfl⟩
      · replace hf := (if_pos c_154).symm.trans hf
        refine lv_iload hx hb dX5_hire_157 (lv_at hl 3 rfl) ?_
        refine lv_goto (tgt := 164) hx hb dX5_hire_159 (by decide) ?_
        obtain rfl := Option.some.inj hf
        exact x_iret C hR hS dX5_hire_164 ⟨rfl, rfl⟩
    · replace hf := (if_neg c_82).symm.trans hf
      refine lv_iload hx hb dX5_hire_85 (lv_at hl 6 rfl) ?_
      obtain ⟨r87_, σ87_, hc_87, hf⟩ := bd_some hf
      refine x_csI C hl.1 hR hS (c_J6_bitCount_0f7a4 l G x9 σ _ hc_87) gX5_hire_J6_bitCount_0f7a4 rfl hdS_J6_bitCount_0f7a4 ⟨Nat.le_of_ble_eq_true rfl, Nat.le_of_ble_eq_true rfl⟩ rfl (As := [.int x9]) (rest := []) rfl (Nat.le_of_ble_eq_true rfl) ⟨Nat.le_of_ble_eq_true rfl, Nat.le_of_ble_eq_true rfl⟩ dX5_hire_87 (fun r87 σ87 H locs hq_87 hR hS => ?_)
      obtain ⟨rfl, rfl⟩ := hq_87
      refine lv_istore (lv' := [(10, .int r87), (0, .ref (G.2.1 0)), (4, .int x4), (5, .int x5), (6, .int x6), (7, .int x7), (8, .int x8), (9, .int x9)]) hx hb dX5_hire_90 hl (by decide) rfl (fun ls hl => ?_)
      refine lv_iload hx hb dX5_hire_92 (lv_at hl 0 rfl) ?_
      refine lv_iload hx hb dX5_hire_94 (lv_at hl 2 rfl) ?_
      refine lv_icmp_gt (tgt := 146) hx hb dX5_hire_96 (by decide) (fun c_96 => ?_) (fun c_96 => ?_)
      · replace hf := (if_pos c_96).symm.trans hf
        exact w_X5_hire_146 C hrc78 x4 x5 x6 x7 x8 x9 _ hf _ _ _ hR hS (lv_sub hl [1, 2, 3, 4, 5, 6, 7] rfl)
      · replace hf := (if_neg c_96).symm.trans hf
        refine lv_aload_n hx hb dX5_hire_99 rfl (lv_at hl 1 rfl) ?_
        refine x_get C hR inX5 0 (by decide) (cz4 rfl) rfl 4 (by decide) 1 rfl (.ref (G.2.1 61)) rfl dX5_hire_100 ?_
        refine lv_aload_n hx hb dX5_hire_103 rfl (lv_at hl 1 rfl) ?_
        refine x_get C hR inX5 0 (by decide) (cz4 rfl) rfl 0 (by decide) 2 rfl (.ref (G.2.1 1)) rfl dX5_hire_104 ?_
        refine lv_iload hx hb dX5_hire_107 (lv_at hl 7 rfl) ?_
        obtain ⟨r109_, σ109_, hc_109, hf⟩ := bd_some hf
        refine x_cvI C hl.1 hR hS (c_X4_goWithRight l G x9 σ87 _ hc_109) gX5_hire_X4_goWithRight rfl hdV_X4_goWithRight ⟨Nat.le_of_ble_eq_true rfl, Nat.le_of_ble_eq_true rfl⟩ (by decide) (cz3 rfl) rfl rfl (As := [.ref (G.2.1 1), .int x9]) (rest := []) rfl (Nat.le_of_ble_eq_true rfl) ⟨Nat.le_of_ble_eq_true rfl, Nat.le_of_ble_eq_true rfl⟩ dX5_hire_109 (fun r109 σ109 H locs hq_109 hR hS => ?_)
        obtain ⟨rfl, rfl⟩ := hq_109
        refine lv_istore (lv' := [(11, .int r109), (10, .int r87), (0, .ref (G.2.1 0)), (4, .int x4), (5, .int x5), (6, .int x6), (7, .int x7), (8, .int x8), (9, .int x9)]) hx hb dX5_hire_112 hl (by decide) rfl (fun ls hl => ?_)
        refine lv_iload hx hb dX5_hire_114 (lv_at hl 0 rfl) ?_
        refine lv_iload hx hb dX5_hire_116 (lv_at hl 6 rfl) ?_
        refine lv_icmp_lt (tgt := 138) hx hb dX5_hire_118 (by decide) (fun c_118 => ?_) (fun c_118 => ?_)
        · replace hf := (if_pos c_118).symm.trans hf
          exact w_X5_hire_138 C hrc78 x4 x5 x8 x9 r109 _ hf _ _ _ hR hS (lv_sub hl [2, 3, 4, 7, 8, 0] rfl)
        · replace hf := (if_neg c_118).symm.trans hf
          refine lv_iload hx hb dX5_hire_121 (lv_at hl 0 rfl) ?_
          refine lv_iload hx hb dX5_hire_123 (lv_at hl 6 rfl) ?_
          refine lv_icmp_ne (tgt := 146) hx hb dX5_hire_125 (by decide) (fun c_125 => ?_) (fun c_125 => ?_)
          · replace hf := (if_neg c_125).symm.trans hf
            exact w_X5_hire_146 C hrc78 x4 x5 x6 x7 x8 x9 _ hf _ _ _ hR hS (lv_sub hl [2, 3, 4, 5, 6, 7, 8] rfl)
          · replace hf := (if_pos c_125).symm.trans hf
            refine lv_iload hx hb dX5_hire_128 (lv_at hl 1 rfl) ?_
            refine lv_iload hx hb dX5_hire_130 (lv_at hl 5 rfl) ?_
            obtain ⟨r132_, σ132_, hc_132, hf⟩ := bd_some hf
            refine x_csI C hl.1 hR hS (c_J6_bitCount_0f7a4 l G x6 σ109 _ hc_132) gX5_hire_J6_bitCount_0f7a4 rfl hdS_J6_bitCount_0f7a4 ⟨Nat.le_of_ble_eq_true rfl, Nat.le_of_ble_eq_true rfl⟩ rfl (As := [.int x6]) (rest := [.int r87]) rfl (Nat.le_of_ble_eq_true rfl) ⟨Nat.le_of_ble_eq_true rfl, Nat.le_of_ble_eq_true rfl⟩ dX5_hire_132 (fun r132 σ132 H locs hq_132 hR hS => ?_)
            obtain ⟨rfl, rfl⟩ := hq_132
            refine lv_icmp_ge (tgt := 146) hx hb dX5_hire_135 (by decide) (fun c_135 => ?_) (fun c_135 => ?_)
            · replace hf := (if_pos c_135).symm.trans hf
              exact w_X5_hire_146 C hrc78 x4 x5 x6 x7 x8 x9 _ hf _ _ _ hR hS (lv_sub hl [2, 3, 4, 5, 6, 7, 8] rfl)
            · replace hf := (if_neg c_135).symm.trans hf
              exact w_X5_hire_138 C hrc78 x4 x5 x8 x9 r109 _ hf _ _ _ hR hS (lv_sub hl [2, 3, 4, 7, 8, 0] rfl)
set_option maxHeartbeats 4000000 in
set_option maxRecDepth 100000 in
theorem c_X5_hire (l : Launch) (G : GG) (x1 : Int32) (x2 : Int32) (x3 : Int32) (x4 : Int32) (x5 : Int32) (σ : St) (res : Int32 × St) (hf : f_X5_hire x1 x2 x3 x4 x5 σ = some res) : CI l yX5_hire wsX5_hire 4 [.ref (G.2.1 0), .int x1, .int x2, .int x3, .int x4, .int x5] G σ (fun r u => r = res.1 ∧ u = res.2) := by
  refine x_ent (ret := (some .int)) cX5_hire 12 (by decide) rfl (Nat.le_of_ble_eq_true rfl) ?_
  intro p e s m below meth c ls C hR hS hl
  have C : Cx p s m [.ref (G.2.1 0), .int x1, .int x2, .int x3, .int x4, .int x5].toArray meth c cX5_hire RX5 wsX5_hire (some .int) 12 G := C
  have hx := C.1
  have hb := C.2.1
  have hl : lv_has ls 12 [(0, .ref (G.2.1 0)), (1, .int x1), (2, .int x2), (3, .int x3), (4, .int x4), (5, .int x5)] := hl
  have inX5 : ∀ w ∈ u_ws RX5 TX5 13, w ∈ wsX5_hire := fun w h => List.mem_cons_of_mem _ (List.mem_append_left _ (List.mem_append_left _ (List.mem_append_left _ (List.mem_append_right _ h))))
  unfold f_X5_hire at hf
  refine lv_iload_n hx hb dX5_hire_0 rfl (lv_at hl 1 rfl) ?_
  refine lv_iload_n hx hb dX5_hire_1 rfl (lv_at hl 2 rfl) ?_
  refine lv_iload_n hx hb dX5_hire_2 rfl (lv_at hl 3 rfl) ?_
  refine lv_iconst (v := 0) hx hb dX5_hire_3 (by decide) ?_
  obtain ⟨r4_, σ4_, hc_4, hf⟩ := bd_some hf
  refine x_csI C hl.1 hR hS (c_X5_isRun l G x1 x2 x3 0 σ _ hc_4) gX5_hire_X5_isRun rfl hdS_X5_isRun ⟨Nat.le_of_ble_eq_true rfl, Nat.le_of_ble_eq_true rfl⟩ rfl (As := [.int x1, .int x2, .int x3, .int 0]) (rest := []) rfl (Nat.le_of_ble_eq_true rfl) ⟨Nat.le_of_ble_eq_true rfl, Nat.le_of_ble_eq_true rfl⟩ dX5_hire_4 (fun r4 σ4 H locs hq_4 hR hS => ?_)
  obtain ⟨rfl, rfl⟩ := hq_4
  refine lv_if_eq (tgt := 30) hx hb dX5_hire_7 (by decide) (fun c_7 => ?_) (fun c_7 => ?_)
  · replace hf := (if_pos c_7).symm.trans hf
    refine lv_aload_n hx hb dX5_hire_30 rfl (lv_at hl 0 rfl) ?_
    obtain ⟨r31_, σ31_, hc_31, hf⟩ := bd_some hf
    refine x_cvI C hl.1 hR hS (c_X5_refusedBad l G σ4 _ hc_31) gX5_hire_X5_refusedBad rfl hdV_X5_refusedBad ⟨Nat.le_of_ble_eq_true rfl, Nat.le_of_ble_eq_true rfl⟩ (by decide) (cz4 rfl) rfl rfl (As := []) (rest := []) rfl (Nat.le_of_ble_eq_true rfl) ⟨Nat.le_of_ble_eq_true rfl, Nat.le_of_ble_eq_true rfl⟩ dX5_hire_31 (fun r31 σ31 H locs hq_31 hR hS => ?_)
    obtain ⟨rfl, rfl⟩ := hq_31
    obtain rfl := Option.some.inj hf
    exact x_iret C hR hS dX5_hire_34 ⟨rfl, rfl⟩
  · replace hf := (if_neg c_7).symm.trans hf
    refine lv_iload hx hb dX5_hire_10 (lv_at hl 4 rfl) ?_
    refine lv_iconst (v := 0) hx hb dX5_hire_12 (by decide) ?_
    refine lv_iconst (v := 3) hx hb dX5_hire_13 (by decide) ?_
    obtain ⟨r14_, σ14_, hc_14, hf⟩ := bd_some hf
    refine x_csI C hl.1 hR hS (c_X5_within l G x4 0 3 σ4 _ hc_14) gX5_hire_X5_within rfl hdS_X5_within ⟨Nat.le_of_ble_eq_true rfl, Nat.le_of_ble_eq_true rfl⟩ rfl (As := [.int x4, .int 0, .int 3]) (rest := []) rfl (Nat.le_of_ble_eq_true rfl) ⟨Nat.le_of_ble_eq_true rfl, Nat.le_of_ble_eq_true rfl⟩ dX5_hire_14 (fun r14 σ14 H locs hq_14 hR hS => ?_)
    obtain ⟨rfl, rfl⟩ := hq_14
    refine lv_if_eq (tgt := 30) hx hb dX5_hire_17 (by decide) (fun c_17 => ?_) (fun c_17 => ?_)
    · replace hf := (if_pos c_17).symm.trans hf
      refine lv_aload_n hx hb dX5_hire_30 rfl (lv_at hl 0 rfl) ?_
      obtain ⟨r31_, σ31_, hc_31, hf⟩ := bd_some hf
      refine x_cvI C hl.1 hR hS (c_X5_refusedBad l G σ14 _ hc_31) gX5_hire_X5_refusedBad rfl hdV_X5_refusedBad ⟨Nat.le_of_ble_eq_true rfl, Nat.le_of_ble_eq_true rfl⟩ (by decide) (cz4 rfl) rfl rfl (As := []) (rest := []) rfl (Nat.le_of_ble_eq_true rfl) ⟨Nat.le_of_ble_eq_true rfl, Nat.le_of_ble_eq_true rfl⟩ dX5_hire_31 (fun r31 σ31 H locs hq_31 hR hS => ?_)
      obtain ⟨rfl, rfl⟩ := hq_31
      obtain rfl := Option.some.inj hf
      exact x_iret C hR hS dX5_hire_34 ⟨rfl, rfl⟩
    · replace hf := (if_neg c_17).symm.trans hf
      refine lv_iload hx hb dX5_hire_20 (lv_at hl 5 rfl) ?_
      refine lv_iconst (v := 0) hx hb dX5_hire_22 (by decide) ?_
      refine lv_iconst (v := 1) hx hb dX5_hire_23 (by decide) ?_
      obtain ⟨r24_, σ24_, hc_24, hf⟩ := bd_some hf
      refine x_csI C hl.1 hR hS (c_X5_within l G x5 0 1 σ14 _ hc_24) gX5_hire_X5_within rfl hdS_X5_within ⟨Nat.le_of_ble_eq_true rfl, Nat.le_of_ble_eq_true rfl⟩ rfl (As := [.int x5, .int 0, .int 1]) (rest := []) rfl (Nat.le_of_ble_eq_true rfl) ⟨Nat.le_of_ble_eq_true rfl, Nat.le_of_ble_eq_true rfl⟩ dX5_hire_24 (fun r24 σ24 H locs hq_24 hR hS => ?_)
      obtain ⟨rfl, rfl⟩ := hq_24
      refine lv_if_ne (tgt := 35) hx hb dX5_hire_27 (by decide) (fun c_27 => ?_) (fun c_27 => ?_)
      · replace hf := (if_neg c_27).symm.trans hf
        refine lv_aload_n hx hb dX5_hire_35 rfl (lv_at hl 0 rfl) ?_
        refine x_get C hR inX5 0 (by decide) (cz4 rfl) rfl 4 (by decide) 1 rfl (.ref (G.2.1 61)) rfl dX5_hire_36 ?_
        refine lv_aload_n hx hb dX5_hire_39 rfl (lv_at hl 0 rfl) ?_
        refine x_get C hR inX5 0 (by decide) (cz4 rfl) rfl 0 (by decide) 2 rfl (.ref (G.2.1 1)) rfl dX5_hire_40 ?_
        refine lv_iload_n hx hb dX5_hire_43 rfl (lv_at hl 1 rfl) ?_
        refine lv_iload_n hx hb dX5_hire_44 rfl (lv_at hl 2 rfl) ?_
        refine lv_iload_n hx hb dX5_hire_45 rfl (lv_at hl 3 rfl) ?_
        refine lv_iconst (v := 0) hx hb dX5_hire_46 (by decide) ?_
        obtain ⟨σ47_, hc_47, hf⟩ := bv_some hf
        refine x_cvV C hl.1 hR hS (c_X4_tell l G x1 x2 x3 0 σ24 _ hc_47) gX5_hire_X4_tell rfl hdV_X4_tell ⟨Nat.le_of_ble_eq_true rfl, Nat.le_of_ble_eq_true rfl⟩ (by decide) (cz3 rfl) rfl rfl (As := [.ref (G.2.1 1), .int x1, .int x2, .int x3, .int 0]) (rest := []) rfl (Nat.le_of_ble_eq_true rfl) ⟨Nat.le_of_ble_eq_true rfl, Nat.le_of_ble_eq_true rfl⟩ dX5_hire_47 (fun σ47 H locs hq_47 hR hS => ?_)
        subst hq_47
        refine lv_iconst (v := 0) hx hb dX5_hire_50 (by decide) ?_
        refine lv_istore (lv' := [(6, .int 0), (0, .ref (G.2.1 0)), (1, .int x1), (2, .int x2), (3, .int x3), (4, .int x4), (5, .int x5)]) hx hb dX5_hire_51 hl (by decide) rfl (fun ls hl => ?_)
        refine lv_aload_n hx hb dX5_hire_53 rfl (lv_at hl 1 rfl) ?_
        refine x_get C hR inX5 0 (by decide) (cz4 rfl) rfl 4 (by decide) 1 rfl (.ref (G.2.1 61)) rfl dX5_hire_54 ?_
        refine lv_aload_n hx hb dX5_hire_57 rfl (lv_at hl 1 rfl) ?_
        refine x_get C hR inX5 0 (by decide) (cz4 rfl) rfl 0 (by decide) 2 rfl (.ref (G.2.1 1)) rfl dX5_hire_58 ?_
        obtain ⟨r61_, σ61_, hc_61, hf⟩ := bd_some hf
        refine x_cvI C hl.1 hR hS (c_X4_go l G σ47 _ hc_61) gX5_hire_X4_go rfl hdV_X4_go ⟨Nat.le_of_ble_eq_true rfl, Nat.le_of_ble_eq_true rfl⟩ (by decide) (cz3 rfl) rfl rfl (As := [.ref (G.2.1 1)]) (rest := []) rfl (Nat.le_of_ble_eq_true rfl) ⟨Nat.le_of_ble_eq_true rfl, Nat.le_of_ble_eq_true rfl⟩ dX5_hire_61 (fun r61 σ61 H locs hq_61 hR hS => ?_)
        obtain ⟨rfl, rfl⟩ := hq_61
        refine lv_istore (lv' := [(7, .int r61), (6, .int 0), (0, .ref (G.2.1 0)), (1, .int x1), (2, .int x2), (3, .int x3), (4, .int x4), (5, .int x5)]) hx hb dX5_hire_64 hl (by decide) rfl (fun ls hl => ?_)
        refine lv_aload_n hx hb dX5_hire_66 rfl (lv_at hl 2 rfl) ?_
        refine x_get C hR inX5 0 (by decide) (cz4 rfl) rfl 0 (by decide) 2 rfl (.ref (G.2.1 1)) rfl dX5_hire_67 ?_
        obtain ⟨r70_, σ70_, hc_70, hf⟩ := bd_some hf
        refine x_cvI C hl.1 hR hS (c_X0_allLocks_1 l G σ61 _ hc_70) gX5_hire_X0_allLocks rfl hdV_X0_allLocks ⟨Nat.le_of_ble_eq_true rfl, Nat.le_of_ble_eq_true rfl⟩ (by decide) (cz0 rfl) rfl rfl (As := []) (rest := []) rfl (Nat.le_of_ble_eq_true rfl) ⟨Nat.le_of_ble_eq_true rfl, Nat.le_of_ble_eq_true rfl⟩ dX5_hire_70 (fun r70 σ70 H locs hq_70 hR hS => ?_)
        obtain ⟨rfl, rfl⟩ := hq_70
        refine lv_istore (lv' := [(8, .int r70), (7, .int r61), (6, .int 0), (0, .ref (G.2.1 0)), (1, .int x1), (2, .int x2), (3, .int x3), (4, .int x4), (5, .int x5)]) hx hb dX5_hire_73 hl (by decide) rfl (fun ls hl => ?_)
        refine lv_iconst (v := 1) hx hb dX5_hire_75 (by decide) ?_
        refine lv_istore (lv' := [(9, .int 1), (8, .int r70), (7, .int r61), (6, .int 0), (0, .ref (G.2.1 0)), (1, .int x1), (2, .int x2), (3, .int x3), (4, .int x4), (5, .int x5)]) hx hb dX5_hire_76 hl (by decide) rfl (fun ls hl => ?_)
        exact w_X5_hire_78 C  FU x4 x5 0 r61 r70 1 _ hf _ _ _ hR hS (lv_sub hl [4, 8, 9, 3, 2, 1, 0] rfl)
      · replace hf := (if_pos c_27).symm.trans hf
        refine lv_aload_n hx hb dX5_hire_30 rfl (lv_at hl 0 rfl) ?_
        obtain ⟨r31_, σ31_, hc_31, hf⟩ := bd_some hf
        refine x_cvI C hl.1 hR hS (c_X5_refusedBad l G σ24 _ hc_31) gX5_hire_X5_refusedBad rfl hdV_X5_refusedBad ⟨Nat.le_of_ble_eq_true rfl, Nat.le_of_ble_eq_true rfl⟩ (by decide) (cz4 rfl) rfl rfl (As := []) (rest := []) rfl (Nat.le_of_ble_eq_true rfl) ⟨Nat.le_of_ble_eq_true rfl, Nat.le_of_ble_eq_true rfl⟩ dX5_hire_31 (fun r31 σ31 H locs hq_31 hR hS => ?_)
        obtain ⟨rfl, rfl⟩ := hq_31
        obtain rfl := Option.some.inj hf
        exact x_iret C hR hS dX5_hire_34 ⟨rfl, rfl⟩
theorem hdV_X5_dark : yX5_dark.cls = RX5 ∧ yX5_dark.cls ≠ "java/lang/invoke/MethodHandle" ∧ yX5_dark.cls ≠ "java/lang/invoke/VarHandle" ∧ (parseMethodDescriptor yX5_dark.desc).map (fun d => d.parameters.length) = some 4 := by decide +kernel
def f_X5_dark_92 (rc60 : Int32 → Int32 → Int32 → St → Option (Int32 × St)) (x4 : Int32) (x5 : Int32) (x6 : Int32) (σ : St) : Option (Int32 × St) :=
  rc60 x4 x5 (x6 + 1) σ
def f_X5_dark_60 : Nat → Int32 → Int32 → Int32 → St → Option (Int32 × St)
  | 0, _, _, _, _ => none
  | n + 1, x4, x5, x6, σ => (if (sI σ 1 0) ≤ x6 then some (x5, σ) else bd (f_X2_get 67 x6 σ) (fun r81 σ81 => (if x4 < r81 then f_X5_dark_92 (f_X5_dark_60 n) x4 x5 x6 σ81 else f_X5_dark_92 (f_X5_dark_60 n) x4 (x5 + 1) x6 σ81)))
def f_X5_dark (x1 : Int32) (x2 : Int32) (x3 : Int32) (x4 : Int32) (σ : St) : Option (Int32 × St) :=
  bd (f_X5_isRun x1 x2 x3 0 σ) (fun r4 σ4 => (if r4 = 0 then bd (f_X5_refusedBad σ4) (fun r23 σ23 => some (r23, σ23)) else bd (f_X5_within x4 0 999 σ4) (fun r16 σ16 => (if r16 = 0 then bd (f_X5_refusedBad σ16) (fun r23 σ23 => some (r23, σ23)) else bv (f_X4_tell x1 x2 x3 0 σ16) (fun σ39 => bd (f_X4_go σ39) (fun r50 σ50 => f_X5_dark_60 FU x4 0 0 σ50))))))
set_option maxHeartbeats 4000000 in
set_option maxRecDepth 100000 in
theorem w_X5_dark_92 {p : Program} {l : Launch} {e : Env} {s : State} {m : MethodId} {args : Array Value} {below : List Frame} {meth : Method} {c : Code} {G : GG} (C : Cx p s m args meth c cX5_dark RX5 wsX5_dark (some .int) 7 G) {res : Int32 × St} {rc60 : Int32 → Int32 → Int32 → St → Option (Int32 × St)} (hrc60 : ∀ (x4 : Int32) (x5 : Int32) (x6 : Int32) (σ : St), rc60 x4 x5 x6 σ = some res → WC p l e 3 s m args below meth c G (QI G res) 7 60 [(0, .ref (G.2.1 0)), (4, .int x4), (5, .int x5), (6, .int x6)] [] σ) : ∀ (x4 : Int32) (x5 : Int32) (x6 : Int32) (σ : St), f_X5_dark_92 rc60 x4 x5 x6 σ = some res → WC p l e 3 s m args below meth c G (QI G res) 7 92 [(0, .ref (G.2.1 0)), (4, .int x4), (5, .int x5), (6, .int x6)] [] σ := by
  have hx := C.1
  have hb := C.2.1
  have inX5 : ∀ w ∈ u_ws RX5 TX5 13, w ∈ wsX5_dark := fun w h => List.mem_cons_of_mem _ (List.mem_append_left _ (List.mem_append_left _ (List.mem_append_left _ (List.mem_append_right _ h))))
  have inX0 : ∀ w ∈ u_ws RX0 TX0 14, w ∈ wsX5_dark := fun w h => List.mem_cons_of_mem _ (List.mem_append_left _ (List.mem_append_left _ (List.mem_append_right _ h)))
  have inX4 : ∀ w ∈ u_ws RX4 TX4 14, w ∈ wsX5_dark := fun w h => List.mem_cons_of_mem _ (List.mem_append_left _ (List.mem_append_right _ h))
  intro x4 x5 x6 σ hf _ _ _ hR hS hl
  unfold f_X5_dark_92 at hf
  refine lv_iinc (v := x6 + 1) (lv' := [(6, .int (x6 + 1)), (0, .ref (G.2.1 0)), (4, .int x4), (5, .int x5)]) hx hb dX5_dark_92 hl (k := 3) rfl rfl (by decide) rfl (fun ls hl => ?_)
  refine lv_goto (tgt := 60) hx hb dX5_dark_95 (by decide) ?_
  exact hrc60 x4 x5 (x6 + 1) _ hf _ _ _ hR hS (lv_sub hl [1, 2, 3, 0] rfl)
set_option maxHeartbeats 4000000 in
set_option maxRecDepth 100000 in
theorem w_X5_dark_60 {p : Program} {l : Launch} {e : Env} {s : State} {m : MethodId} {args : Array Value} {below : List Frame} {meth : Method} {c : Code} {G : GG} (C : Cx p s m args meth c cX5_dark RX5 wsX5_dark (some .int) 7 G) {res : Int32 × St} : ∀ (n : Nat) (x4 : Int32) (x5 : Int32) (x6 : Int32) (σ : St), f_X5_dark_60 n x4 x5 x6 σ = some res → WC p l e 3 s m args below meth c G (QI G res) 7 60 [(0, .ref (G.2.1 0)), (4, .int x4), (5, .int x5), (6, .int x6)] [] σ := by
  have hx := C.1
  have hb := C.2.1
  have inX5 : ∀ w ∈ u_ws RX5 TX5 13, w ∈ wsX5_dark := fun w h => List.mem_cons_of_mem _ (List.mem_append_left _ (List.mem_append_left _ (List.mem_append_left _ (List.mem_append_right _ h))))
  have inX0 : ∀ w ∈ u_ws RX0 TX0 14, w ∈ wsX5_dark := fun w h => List.mem_cons_of_mem _ (List.mem_append_left _ (List.mem_append_left _ (List.mem_append_right _ h)))
  have inX4 : ∀ w ∈ u_ws RX4 TX4 14, w ∈ wsX5_dark := fun w h => List.mem_cons_of_mem _ (List.mem_append_left _ (List.mem_append_right _ h))
  intro n
  induction n with
  | zero => intro x4 x5 x6 σ hf; cases hf
  | succ n hrc60 =>
    intro x4 x5 x6 σ hf _ _ _ hR hS hl
    unfold f_X5_dark_60 at hf
    refine lv_iload hx hb dX5_dark_60 (lv_at hl 3 rfl) ?_
    refine lv_aload_n hx hb dX5_dark_62 rfl (lv_at hl 0 rfl) ?_
    refine x_get C hR inX5 0 (by decide) (cz4 rfl) rfl 0 (by decide) 2 rfl (.ref (G.2.1 1)) rfl dX5_dark_63 ?_
    refine x_get C hR inX0 1 (by decide) (cz0 rfl) rfl 0 (by decide) 3 rfl (.int (sI σ 1 0)) rfl dX5_dark_66 ?_
    refine lv_icmp_ge (tgt := 98) hx hb dX5_dark_69 (by decide) (fun c_69 => ?_) (fun c_69 => ?_)
    · replace hf := (if_pos c_69).symm.trans hf
      refine lv_iload hx hb dX5_dark_98 (lv_at hl 2 rfl) ?_
      obtain rfl := Option.some.inj hf
      exact x_iret C hR hS dX5_dark_100 ⟨rfl, rfl⟩
    · replace hf := (if_neg c_69).symm.trans hf
      refine lv_aload_n hx hb dX5_dark_72 rfl (lv_at hl 0 rfl) ?_
      refine x_get C hR inX5 0 (by decide) (cz4 rfl) rfl 4 (by decide) 1 rfl (.ref (G.2.1 61)) rfl dX5_dark_73 ?_
      refine x_get C hR inX4 61 (by decide) (cz3 rfl) rfl 11 (by decide) 4 rfl (.ref (G.2.1 66)) rfl dX5_dark_76 ?_
      refine lv_iload hx hb dX5_dark_79 (lv_at hl 3 rfl) ?_
      obtain ⟨r81_, σ81_, hc_81, hf⟩ := bd_some hf
      refine x_cvI C hl.1 hR hS (c_X2_get l G 67 66 rfl rfl rfl x6 σ _ hc_81) gX5_dark_X2_get rfl hdV_X2_get ⟨Nat.le_of_ble_eq_true rfl, Nat.le_of_ble_eq_true rfl⟩ (by decide) (cz1 rfl) rfl rfl (As := [.int x6]) (rest := []) rfl (Nat.le_of_ble_eq_true rfl) ⟨Nat.le_of_ble_eq_true rfl, Nat.le_of_ble_eq_true rfl⟩ dX5_dark_81 (fun r81 σ81 H locs hq_81 hR hS => ?_)
      obtain ⟨rfl, rfl⟩ := hq_81
      refine lv_iload hx hb dX5_dark_84 (lv_at hl 1 rfl) ?_
      refine lv_icmp_gt (tgt := 92) hx hb dX5_dark_86 (by decide) (fun c_86 => ?_) (fun c_86 => ?_)
      · replace hf := (if_pos c_86).symm.trans hf
        exact w_X5_dark_92 C hrc60 x4 x5 x6 _ hf _ _ _ hR hS (lv_sub hl [0, 1, 2, 3] rfl)
      · replace hf := (if_neg c_86).symm.trans hf
        refine lv_iinc (v := x5 + 1) (lv' := [(5, .int (x5 + 1)), (0, .ref (G.2.1 0)), (4, .int x4), (6, .int x6)]) hx hb dX5_dark_89 hl (k := 2) rfl rfl (by decide) rfl (fun ls hl => ?_)
        exact w_X5_dark_92 C hrc60 x4 (x5 + 1) x6 _ hf _ _ _ hR hS (lv_sub hl [1, 2, 0, 3] rfl)
set_option maxHeartbeats 4000000 in
set_option maxRecDepth 100000 in
theorem c_X5_dark (l : Launch) (G : GG) (x1 : Int32) (x2 : Int32) (x3 : Int32) (x4 : Int32) (σ : St) (res : Int32 × St) (hf : f_X5_dark x1 x2 x3 x4 σ = some res) : CI l yX5_dark wsX5_dark 3 [.ref (G.2.1 0), .int x1, .int x2, .int x3, .int x4] G σ (fun r u => r = res.1 ∧ u = res.2) := by
  refine x_ent (ret := (some .int)) cX5_dark 7 (by decide) rfl (Nat.le_of_ble_eq_true rfl) ?_
  intro p e s m below meth c ls C hR hS hl
  have C : Cx p s m [.ref (G.2.1 0), .int x1, .int x2, .int x3, .int x4].toArray meth c cX5_dark RX5 wsX5_dark (some .int) 7 G := C
  have hx := C.1
  have hb := C.2.1
  have hl : lv_has ls 7 [(0, .ref (G.2.1 0)), (1, .int x1), (2, .int x2), (3, .int x3), (4, .int x4)] := hl
  have inX5 : ∀ w ∈ u_ws RX5 TX5 13, w ∈ wsX5_dark := fun w h => List.mem_cons_of_mem _ (List.mem_append_left _ (List.mem_append_left _ (List.mem_append_left _ (List.mem_append_right _ h))))
  have inX0 : ∀ w ∈ u_ws RX0 TX0 14, w ∈ wsX5_dark := fun w h => List.mem_cons_of_mem _ (List.mem_append_left _ (List.mem_append_left _ (List.mem_append_right _ h)))
  have inX4 : ∀ w ∈ u_ws RX4 TX4 14, w ∈ wsX5_dark := fun w h => List.mem_cons_of_mem _ (List.mem_append_left _ (List.mem_append_right _ h))
  unfold f_X5_dark at hf
  refine lv_iload_n hx hb dX5_dark_0 rfl (lv_at hl 1 rfl) ?_
  refine lv_iload_n hx hb dX5_dark_1 rfl (lv_at hl 2 rfl) ?_
  refine lv_iload_n hx hb dX5_dark_2 rfl (lv_at hl 3 rfl) ?_
  refine lv_iconst (v := 0) hx hb dX5_dark_3 (by decide) ?_
  obtain ⟨r4_, σ4_, hc_4, hf⟩ := bd_some hf
  refine x_csI C hl.1 hR hS (c_X5_isRun l G x1 x2 x3 0 σ _ hc_4) gX5_dark_X5_isRun rfl hdS_X5_isRun ⟨Nat.le_of_ble_eq_true rfl, Nat.le_of_ble_eq_true rfl⟩ rfl (As := [.int x1, .int x2, .int x3, .int 0]) (rest := []) rfl (Nat.le_of_ble_eq_true rfl) ⟨Nat.le_of_ble_eq_true rfl, Nat.le_of_ble_eq_true rfl⟩ dX5_dark_4 (fun r4 σ4 H locs hq_4 hR hS => ?_)
  obtain ⟨rfl, rfl⟩ := hq_4
  refine lv_if_eq (tgt := 22) hx hb dX5_dark_7 (by decide) (fun c_7 => ?_) (fun c_7 => ?_)
  · replace hf := (if_pos c_7).symm.trans hf
    refine lv_aload_n hx hb dX5_dark_22 rfl (lv_at hl 0 rfl) ?_
    obtain ⟨r23_, σ23_, hc_23, hf⟩ := bd_some hf
    refine x_cvI C hl.1 hR hS (c_X5_refusedBad l G σ4 _ hc_23) gX5_dark_X5_refusedBad rfl hdV_X5_refusedBad ⟨Nat.le_of_ble_eq_true rfl, Nat.le_of_ble_eq_true rfl⟩ (by decide) (cz4 rfl) rfl rfl (As := []) (rest := []) rfl (Nat.le_of_ble_eq_true rfl) ⟨Nat.le_of_ble_eq_true rfl, Nat.le_of_ble_eq_true rfl⟩ dX5_dark_23 (fun r23 σ23 H locs hq_23 hR hS => ?_)
    obtain ⟨rfl, rfl⟩ := hq_23
    obtain rfl := Option.some.inj hf
    exact x_iret C hR hS dX5_dark_26 ⟨rfl, rfl⟩
  · replace hf := (if_neg c_7).symm.trans hf
    refine lv_iload hx hb dX5_dark_10 (lv_at hl 4 rfl) ?_
    refine lv_iconst (v := 0) hx hb dX5_dark_12 (by decide) ?_
    refine lv_sipush (v := 999) hx hb dX5_dark_13 (by decide) ?_
    obtain ⟨r16_, σ16_, hc_16, hf⟩ := bd_some hf
    refine x_csI C hl.1 hR hS (c_X5_within l G x4 0 999 σ4 _ hc_16) gX5_dark_X5_within rfl hdS_X5_within ⟨Nat.le_of_ble_eq_true rfl, Nat.le_of_ble_eq_true rfl⟩ rfl (As := [.int x4, .int 0, .int 999]) (rest := []) rfl (Nat.le_of_ble_eq_true rfl) ⟨Nat.le_of_ble_eq_true rfl, Nat.le_of_ble_eq_true rfl⟩ dX5_dark_16 (fun r16 σ16 H locs hq_16 hR hS => ?_)
    obtain ⟨rfl, rfl⟩ := hq_16
    refine lv_if_ne (tgt := 27) hx hb dX5_dark_19 (by decide) (fun c_19 => ?_) (fun c_19 => ?_)
    · replace hf := (if_neg c_19).symm.trans hf
      refine lv_aload_n hx hb dX5_dark_27 rfl (lv_at hl 0 rfl) ?_
      refine x_get C hR inX5 0 (by decide) (cz4 rfl) rfl 4 (by decide) 1 rfl (.ref (G.2.1 61)) rfl dX5_dark_28 ?_
      refine lv_aload_n hx hb dX5_dark_31 rfl (lv_at hl 0 rfl) ?_
      refine x_get C hR inX5 0 (by decide) (cz4 rfl) rfl 0 (by decide) 2 rfl (.ref (G.2.1 1)) rfl dX5_dark_32 ?_
      refine lv_iload_n hx hb dX5_dark_35 rfl (lv_at hl 1 rfl) ?_
      refine lv_iload_n hx hb dX5_dark_36 rfl (lv_at hl 2 rfl) ?_
      refine lv_iload_n hx hb dX5_dark_37 rfl (lv_at hl 3 rfl) ?_
      refine lv_iconst (v := 0) hx hb dX5_dark_38 (by decide) ?_
      obtain ⟨σ39_, hc_39, hf⟩ := bv_some hf
      refine x_cvV C hl.1 hR hS (c_X4_tell l G x1 x2 x3 0 σ16 _ hc_39) gX5_dark_X4_tell rfl hdV_X4_tell ⟨Nat.le_of_ble_eq_true rfl, Nat.le_of_ble_eq_true rfl⟩ (by decide) (cz3 rfl) rfl rfl (As := [.ref (G.2.1 1), .int x1, .int x2, .int x3, .int 0]) (rest := []) rfl (Nat.le_of_ble_eq_true rfl) ⟨Nat.le_of_ble_eq_true rfl, Nat.le_of_ble_eq_true rfl⟩ dX5_dark_39 (fun σ39 H locs hq_39 hR hS => ?_)
      subst hq_39
      refine lv_aload_n hx hb dX5_dark_42 rfl (lv_at hl 0 rfl) ?_
      refine x_get C hR inX5 0 (by decide) (cz4 rfl) rfl 4 (by decide) 1 rfl (.ref (G.2.1 61)) rfl dX5_dark_43 ?_
      refine lv_aload_n hx hb dX5_dark_46 rfl (lv_at hl 0 rfl) ?_
      refine x_get C hR inX5 0 (by decide) (cz4 rfl) rfl 0 (by decide) 2 rfl (.ref (G.2.1 1)) rfl dX5_dark_47 ?_
      obtain ⟨r50_, σ50_, hc_50, hf⟩ := bd_some hf
      refine x_cvI C hl.1 hR hS (c_X4_go l G σ39 _ hc_50) gX5_dark_X4_go rfl hdV_X4_go ⟨Nat.le_of_ble_eq_true rfl, Nat.le_of_ble_eq_true rfl⟩ (by decide) (cz3 rfl) rfl rfl (As := [.ref (G.2.1 1)]) (rest := []) rfl (Nat.le_of_ble_eq_true rfl) ⟨Nat.le_of_ble_eq_true rfl, Nat.le_of_ble_eq_true rfl⟩ dX5_dark_50 (fun r50 σ50 H locs hq_50 hR hS => ?_)
      obtain ⟨rfl, rfl⟩ := hq_50
      refine lv_pop hx hb dX5_dark_53 rfl ?_
      refine lv_iconst (v := 0) hx hb dX5_dark_54 (by decide) ?_
      refine lv_istore (lv' := [(5, .int 0), (0, .ref (G.2.1 0)), (1, .int x1), (2, .int x2), (3, .int x3), (4, .int x4)]) hx hb dX5_dark_55 hl (by decide) rfl (fun ls hl => ?_)
      refine lv_iconst (v := 0) hx hb dX5_dark_57 (by decide) ?_
      refine lv_istore (lv' := [(6, .int 0), (5, .int 0), (0, .ref (G.2.1 0)), (1, .int x1), (2, .int x2), (3, .int x3), (4, .int x4)]) hx hb dX5_dark_58 hl (by decide) rfl (fun ls hl => ?_)
      exact w_X5_dark_60 C  FU x4 0 0 _ hf _ _ _ hR hS (lv_sub hl [2, 6, 1, 0] rfl)
    · replace hf := (if_pos c_19).symm.trans hf
      refine lv_aload_n hx hb dX5_dark_22 rfl (lv_at hl 0 rfl) ?_
      obtain ⟨r23_, σ23_, hc_23, hf⟩ := bd_some hf
      refine x_cvI C hl.1 hR hS (c_X5_refusedBad l G σ16 _ hc_23) gX5_dark_X5_refusedBad rfl hdV_X5_refusedBad ⟨Nat.le_of_ble_eq_true rfl, Nat.le_of_ble_eq_true rfl⟩ (by decide) (cz4 rfl) rfl rfl (As := []) (rest := []) rfl (Nat.le_of_ble_eq_true rfl) ⟨Nat.le_of_ble_eq_true rfl, Nat.le_of_ble_eq_true rfl⟩ dX5_dark_23 (fun r23 σ23 H locs hq_23 hR hS => ?_)
      obtain ⟨rfl, rfl⟩ := hq_23
      obtain rfl := Option.some.inj hf
      exact x_iret C hR hS dX5_dark_26 ⟨rfl, rfl⟩
theorem hdV_X5_waits : yX5_waits.cls = RX5 ∧ yX5_waits.cls ≠ "java/lang/invoke/MethodHandle" ∧ yX5_waits.cls ≠ "java/lang/invoke/VarHandle" ∧ (parseMethodDescriptor yX5_waits.desc).map (fun d => d.parameters.length) = some 5 := by decide +kernel
def f_X5_waits (x1 : Int32) (x2 : Int32) (x3 : Int32) (x4 : Int32) (x5 : Int32) (σ : St) : Option (Int32 × St) :=
  bd (f_X5_isRun x1 x2 x3 0 σ) (fun r4 σ4 => (if r4 = 0 then bd (f_X5_refusedBad σ4) (fun r34 σ34 => some (r34, σ34)) else bd (f_X0_has_1 x4 σ4) (fun r16 σ16 => (if r16 = 0 then bd (f_X5_refusedBad σ16) (fun r34 σ34 => some (r34, σ34)) else bd (f_X5_within x5 0 60 σ16) (fun r27 σ27 => (if r27 = 0 then bd (f_X5_refusedBad σ27) (fun r34 σ34 => some (r34, σ34)) else bv (f_X4_tell x1 x2 x3 0 σ27) (fun σ50 => bd (f_X4_go σ50) (fun r61 σ61 => bd (f_X0_locksFrom_1 x1 x4 σ61) (fun r83 σ83 => bd (f_X4_goWithRight r83 σ83) (fun r86 σ86 => bd (f_J6_compare_7cf53 r61 (x5 + r86) σ86) (fun r96 σ96 => some (r96, σ96))))))))))))
set_option maxHeartbeats 4000000 in
set_option maxRecDepth 100000 in
theorem c_X5_waits (l : Launch) (G : GG) (x1 : Int32) (x2 : Int32) (x3 : Int32) (x4 : Int32) (x5 : Int32) (σ : St) (res : Int32 × St) (hf : f_X5_waits x1 x2 x3 x4 x5 σ = some res) : CI l yX5_waits wsX5_waits 4 [.ref (G.2.1 0), .int x1, .int x2, .int x3, .int x4, .int x5] G σ (fun r u => r = res.1 ∧ u = res.2) := by
  refine x_ent (ret := (some .int)) cX5_waits 8 (by decide) rfl (Nat.le_of_ble_eq_true rfl) ?_
  intro p e s m below meth c ls C hR hS hl
  have C : Cx p s m [.ref (G.2.1 0), .int x1, .int x2, .int x3, .int x4, .int x5].toArray meth c cX5_waits RX5 wsX5_waits (some .int) 8 G := C
  have hx := C.1
  have hb := C.2.1
  have hl : lv_has ls 8 [(0, .ref (G.2.1 0)), (1, .int x1), (2, .int x2), (3, .int x3), (4, .int x4), (5, .int x5)] := hl
  have inX5 : ∀ w ∈ u_ws RX5 TX5 13, w ∈ wsX5_waits := fun w h => List.mem_cons_of_mem _ (List.mem_append_left _ (List.mem_append_left _ (List.mem_append_left _ (List.mem_append_right _ h))))
  unfold f_X5_waits at hf
  refine lv_iload_n hx hb dX5_waits_0 rfl (lv_at hl 1 rfl) ?_
  refine lv_iload_n hx hb dX5_waits_1 rfl (lv_at hl 2 rfl) ?_
  refine lv_iload_n hx hb dX5_waits_2 rfl (lv_at hl 3 rfl) ?_
  refine lv_iconst (v := 0) hx hb dX5_waits_3 (by decide) ?_
  obtain ⟨r4_, σ4_, hc_4, hf⟩ := bd_some hf
  refine x_csI C hl.1 hR hS (c_X5_isRun l G x1 x2 x3 0 σ _ hc_4) gX5_waits_X5_isRun rfl hdS_X5_isRun ⟨Nat.le_of_ble_eq_true rfl, Nat.le_of_ble_eq_true rfl⟩ rfl (As := [.int x1, .int x2, .int x3, .int 0]) (rest := []) rfl (Nat.le_of_ble_eq_true rfl) ⟨Nat.le_of_ble_eq_true rfl, Nat.le_of_ble_eq_true rfl⟩ dX5_waits_4 (fun r4 σ4 H locs hq_4 hR hS => ?_)
  obtain ⟨rfl, rfl⟩ := hq_4
  refine lv_if_eq (tgt := 33) hx hb dX5_waits_7 (by decide) (fun c_7 => ?_) (fun c_7 => ?_)
  · replace hf := (if_pos c_7).symm.trans hf
    refine lv_aload_n hx hb dX5_waits_33 rfl (lv_at hl 0 rfl) ?_
    obtain ⟨r34_, σ34_, hc_34, hf⟩ := bd_some hf
    refine x_cvI C hl.1 hR hS (c_X5_refusedBad l G σ4 _ hc_34) gX5_waits_X5_refusedBad rfl hdV_X5_refusedBad ⟨Nat.le_of_ble_eq_true rfl, Nat.le_of_ble_eq_true rfl⟩ (by decide) (cz4 rfl) rfl rfl (As := []) (rest := []) rfl (Nat.le_of_ble_eq_true rfl) ⟨Nat.le_of_ble_eq_true rfl, Nat.le_of_ble_eq_true rfl⟩ dX5_waits_34 (fun r34 σ34 H locs hq_34 hR hS => ?_)
    obtain ⟨rfl, rfl⟩ := hq_34
    obtain rfl := Option.some.inj hf
    exact x_iret C hR hS dX5_waits_37 ⟨rfl, rfl⟩
  · replace hf := (if_neg c_7).symm.trans hf
    refine lv_aload_n hx hb dX5_waits_10 rfl (lv_at hl 0 rfl) ?_
    refine x_get C hR inX5 0 (by decide) (cz4 rfl) rfl 0 (by decide) 1 rfl (.ref (G.2.1 1)) rfl dX5_waits_11 ?_
    refine lv_iload hx hb dX5_waits_14 (lv_at hl 4 rfl) ?_
    obtain ⟨r16_, σ16_, hc_16, hf⟩ := bd_some hf
    refine x_cvI C hl.1 hR hS (c_X0_has_1 l G x4 σ4 _ hc_16) gX5_waits_X0_has rfl hdV_X0_has ⟨Nat.le_of_ble_eq_true rfl, Nat.le_of_ble_eq_true rfl⟩ (by decide) (cz0 rfl) rfl rfl (As := [.int x4]) (rest := []) rfl (Nat.le_of_ble_eq_true rfl) ⟨Nat.le_of_ble_eq_true rfl, Nat.le_of_ble_eq_true rfl⟩ dX5_waits_16 (fun r16 σ16 H locs hq_16 hR hS => ?_)
    obtain ⟨rfl, rfl⟩ := hq_16
    refine lv_if_eq (tgt := 33) hx hb dX5_waits_19 (by decide) (fun c_19 => ?_) (fun c_19 => ?_)
    · replace hf := (if_pos c_19).symm.trans hf
      refine lv_aload_n hx hb dX5_waits_33 rfl (lv_at hl 0 rfl) ?_
      obtain ⟨r34_, σ34_, hc_34, hf⟩ := bd_some hf
      refine x_cvI C hl.1 hR hS (c_X5_refusedBad l G σ16 _ hc_34) gX5_waits_X5_refusedBad rfl hdV_X5_refusedBad ⟨Nat.le_of_ble_eq_true rfl, Nat.le_of_ble_eq_true rfl⟩ (by decide) (cz4 rfl) rfl rfl (As := []) (rest := []) rfl (Nat.le_of_ble_eq_true rfl) ⟨Nat.le_of_ble_eq_true rfl, Nat.le_of_ble_eq_true rfl⟩ dX5_waits_34 (fun r34 σ34 H locs hq_34 hR hS => ?_)
      obtain ⟨rfl, rfl⟩ := hq_34
      obtain rfl := Option.some.inj hf
      exact x_iret C hR hS dX5_waits_37 ⟨rfl, rfl⟩
    · replace hf := (if_neg c_19).symm.trans hf
      refine lv_iload hx hb dX5_waits_22 (lv_at hl 5 rfl) ?_
      refine lv_iconst (v := 0) hx hb dX5_waits_24 (by decide) ?_
      refine lv_bipush (v := 60) hx hb dX5_waits_25 (by decide) ?_
      obtain ⟨r27_, σ27_, hc_27, hf⟩ := bd_some hf
      refine x_csI C hl.1 hR hS (c_X5_within l G x5 0 60 σ16 _ hc_27) gX5_waits_X5_within rfl hdS_X5_within ⟨Nat.le_of_ble_eq_true rfl, Nat.le_of_ble_eq_true rfl⟩ rfl (As := [.int x5, .int 0, .int 60]) (rest := []) rfl (Nat.le_of_ble_eq_true rfl) ⟨Nat.le_of_ble_eq_true rfl, Nat.le_of_ble_eq_true rfl⟩ dX5_waits_27 (fun r27 σ27 H locs hq_27 hR hS => ?_)
      obtain ⟨rfl, rfl⟩ := hq_27
      refine lv_if_ne (tgt := 38) hx hb dX5_waits_30 (by decide) (fun c_30 => ?_) (fun c_30 => ?_)
      · replace hf := (if_neg c_30).symm.trans hf
        refine lv_aload_n hx hb dX5_waits_38 rfl (lv_at hl 0 rfl) ?_
        refine x_get C hR inX5 0 (by decide) (cz4 rfl) rfl 4 (by decide) 2 rfl (.ref (G.2.1 61)) rfl dX5_waits_39 ?_
        refine lv_aload_n hx hb dX5_waits_42 rfl (lv_at hl 0 rfl) ?_
        refine x_get C hR inX5 0 (by decide) (cz4 rfl) rfl 0 (by decide) 1 rfl (.ref (G.2.1 1)) rfl dX5_waits_43 ?_
        refine lv_iload_n hx hb dX5_waits_46 rfl (lv_at hl 1 rfl) ?_
        refine lv_iload_n hx hb dX5_waits_47 rfl (lv_at hl 2 rfl) ?_
        refine lv_iload_n hx hb dX5_waits_48 rfl (lv_at hl 3 rfl) ?_
        refine lv_iconst (v := 0) hx hb dX5_waits_49 (by decide) ?_
        obtain ⟨σ50_, hc_50, hf⟩ := bv_some hf
        refine x_cvV C hl.1 hR hS (c_X4_tell l G x1 x2 x3 0 σ27 _ hc_50) gX5_waits_X4_tell rfl hdV_X4_tell ⟨Nat.le_of_ble_eq_true rfl, Nat.le_of_ble_eq_true rfl⟩ (by decide) (cz3 rfl) rfl rfl (As := [.ref (G.2.1 1), .int x1, .int x2, .int x3, .int 0]) (rest := []) rfl (Nat.le_of_ble_eq_true rfl) ⟨Nat.le_of_ble_eq_true rfl, Nat.le_of_ble_eq_true rfl⟩ dX5_waits_50 (fun σ50 H locs hq_50 hR hS => ?_)
        subst hq_50
        refine lv_aload_n hx hb dX5_waits_53 rfl (lv_at hl 0 rfl) ?_
        refine x_get C hR inX5 0 (by decide) (cz4 rfl) rfl 4 (by decide) 2 rfl (.ref (G.2.1 61)) rfl dX5_waits_54 ?_
        refine lv_aload_n hx hb dX5_waits_57 rfl (lv_at hl 0 rfl) ?_
        refine x_get C hR inX5 0 (by decide) (cz4 rfl) rfl 0 (by decide) 1 rfl (.ref (G.2.1 1)) rfl dX5_waits_58 ?_
        obtain ⟨r61_, σ61_, hc_61, hf⟩ := bd_some hf
        refine x_cvI C hl.1 hR hS (c_X4_go l G σ50 _ hc_61) gX5_waits_X4_go rfl hdV_X4_go ⟨Nat.le_of_ble_eq_true rfl, Nat.le_of_ble_eq_true rfl⟩ (by decide) (cz3 rfl) rfl rfl (As := [.ref (G.2.1 1)]) (rest := []) rfl (Nat.le_of_ble_eq_true rfl) ⟨Nat.le_of_ble_eq_true rfl, Nat.le_of_ble_eq_true rfl⟩ dX5_waits_61 (fun r61 σ61 H locs hq_61 hR hS => ?_)
        obtain ⟨rfl, rfl⟩ := hq_61
        refine lv_istore (lv' := [(6, .int r61), (0, .ref (G.2.1 0)), (1, .int x1), (2, .int x2), (3, .int x3), (4, .int x4), (5, .int x5)]) hx hb dX5_waits_64 hl (by decide) rfl (fun ls hl => ?_)
        refine lv_iload hx hb dX5_waits_66 (lv_at hl 6 rfl) ?_
        refine lv_aload_n hx hb dX5_waits_68 rfl (lv_at hl 1 rfl) ?_
        refine x_get C hR inX5 0 (by decide) (cz4 rfl) rfl 4 (by decide) 2 rfl (.ref (G.2.1 61)) rfl dX5_waits_69 ?_
        refine lv_aload_n hx hb dX5_waits_72 rfl (lv_at hl 1 rfl) ?_
        refine x_get C hR inX5 0 (by decide) (cz4 rfl) rfl 0 (by decide) 1 rfl (.ref (G.2.1 1)) rfl dX5_waits_73 ?_
        refine lv_aload_n hx hb dX5_waits_76 rfl (lv_at hl 1 rfl) ?_
        refine x_get C hR inX5 0 (by decide) (cz4 rfl) rfl 0 (by decide) 1 rfl (.ref (G.2.1 1)) rfl dX5_waits_77 ?_
        refine lv_iload_n hx hb dX5_waits_80 rfl (lv_at hl 2 rfl) ?_
        refine lv_iload hx hb dX5_waits_81 (lv_at hl 5 rfl) ?_
        obtain ⟨r83_, σ83_, hc_83, hf⟩ := bd_some hf
        refine x_cvI C hl.1 hR hS (c_X0_locksFrom_1 l G x1 x4 σ61 _ hc_83) gX5_waits_X0_locksFrom rfl hdV_X0_locksFrom ⟨Nat.le_of_ble_eq_true rfl, Nat.le_of_ble_eq_true rfl⟩ (by decide) (cz0 rfl) rfl rfl (As := [.int x1, .int x4]) (rest := [.ref (G.2.1 1), .ref (G.2.1 61), .int x5]) rfl (Nat.le_of_ble_eq_true rfl) ⟨Nat.le_of_ble_eq_true rfl, Nat.le_of_ble_eq_true rfl⟩ dX5_waits_83 (fun r83 σ83 H locs hq_83 hR hS => ?_)
        obtain ⟨rfl, rfl⟩ := hq_83
        obtain ⟨r86_, σ86_, hc_86, hf⟩ := bd_some hf
        refine x_cvI C hl.1 hR hS (c_X4_goWithRight l G r83 σ83 _ hc_86) gX5_waits_X4_goWithRight rfl hdV_X4_goWithRight ⟨Nat.le_of_ble_eq_true rfl, Nat.le_of_ble_eq_true rfl⟩ (by decide) (cz3 rfl) rfl rfl (As := [.ref (G.2.1 1), .int r83]) (rest := [.int x5]) rfl (Nat.le_of_ble_eq_true rfl) ⟨Nat.le_of_ble_eq_true rfl, Nat.le_of_ble_eq_true rfl⟩ dX5_waits_86 (fun r86 σ86 H locs hq_86 hR hS => ?_)
        obtain ⟨rfl, rfl⟩ := hq_86
        refine lv_iadd hx hb dX5_waits_89 ?_
        refine lv_istore (lv' := [(7, .int (x5 + r86)), (6, .int r61), (0, .ref (G.2.1 0)), (1, .int x1), (2, .int x2), (3, .int x3), (4, .int x4), (5, .int x5)]) hx hb dX5_waits_90 hl (by decide) rfl (fun ls hl => ?_)
        refine lv_iload hx hb dX5_waits_92 (lv_at hl 1 rfl) ?_
        refine lv_iload hx hb dX5_waits_94 (lv_at hl 0 rfl) ?_
        obtain ⟨r96_, σ96_, hc_96, hf⟩ := bd_some hf
        refine x_csI C hl.1 hR hS (c_J6_compare_7cf53 l G r61 (x5 + r86) σ86 _ hc_96) gX5_waits_J6_compare_7cf53 rfl hdS_J6_compare_7cf53 ⟨Nat.le_of_ble_eq_true rfl, Nat.le_of_ble_eq_true rfl⟩ rfl (As := [.int r61, .int (x5 + r86)]) (rest := []) rfl (Nat.le_of_ble_eq_true rfl) ⟨Nat.le_of_ble_eq_true rfl, Nat.le_of_ble_eq_true rfl⟩ dX5_waits_96 (fun r96 σ96 H locs hq_96 hR hS => ?_)
        obtain ⟨rfl, rfl⟩ := hq_96
        obtain rfl := Option.some.inj hf
        exact x_iret C hR hS dX5_waits_99 ⟨rfl, rfl⟩
      · replace hf := (if_pos c_30).symm.trans hf
        refine lv_aload_n hx hb dX5_waits_33 rfl (lv_at hl 0 rfl) ?_
        obtain ⟨r34_, σ34_, hc_34, hf⟩ := bd_some hf
        refine x_cvI C hl.1 hR hS (c_X5_refusedBad l G σ27 _ hc_34) gX5_waits_X5_refusedBad rfl hdV_X5_refusedBad ⟨Nat.le_of_ble_eq_true rfl, Nat.le_of_ble_eq_true rfl⟩ (by decide) (cz4 rfl) rfl rfl (As := []) (rest := []) rfl (Nat.le_of_ble_eq_true rfl) ⟨Nat.le_of_ble_eq_true rfl, Nat.le_of_ble_eq_true rfl⟩ dX5_waits_34 (fun r34 σ34 H locs hq_34 hR hS => ?_)
        obtain ⟨rfl, rfl⟩ := hq_34
        obtain rfl := Option.some.inj hf
        exact x_iret C hR hS dX5_waits_37 ⟨rfl, rfl⟩
theorem hdV_X5_share : yX5_share.cls = RX5 ∧ yX5_share.cls ≠ "java/lang/invoke/MethodHandle" ∧ yX5_share.cls ≠ "java/lang/invoke/VarHandle" ∧ (parseMethodDescriptor yX5_share.desc).map (fun d => d.parameters.length) = some 4 := by decide +kernel
def f_X5_share (x1 : Int32) (x2 : Int32) (x3 : Int32) (x4 : Int32) (σ : St) : Option (Int32 × St) :=
  bd (f_X5_isRun x1 x2 x3 0 σ) (fun r4 σ4 => (if r4 = 0 then bd (f_X5_refusedBadFar σ4) (fun r22 σ22 => some (r22, σ22)) else bd (f_X5_within x4 0 60 σ4) (fun r15 σ15 => (if r15 = 0 then bd (f_X5_refusedBadFar σ15) (fun r22 σ22 => some (r22, σ22)) else bv (f_X4_tell x1 x2 x3 0 σ15) (fun σ38 => bd (f_X4_go σ38) (fun r49 σ49 => bd (f_X4_standsBehind σ49) (fun r66 σ66 => bd (f_X4_go (pI σ66 61 5 r66)) (fun r87 σ87 => bv (f_X4_tell x1 x2 x3 0 σ87) (fun σ105 => bd (f_X4_go (pI σ105 61 6 3)) (fun r126 σ126 => some (((if r49 < x4 then x4 else r49) + r87) - (x4 + r126), σ126)))))))))))
set_option maxHeartbeats 4000000 in
set_option maxRecDepth 100000 in
theorem c_X5_share (l : Launch) (G : GG) (x1 : Int32) (x2 : Int32) (x3 : Int32) (x4 : Int32) (σ : St) (res : Int32 × St) (hf : f_X5_share x1 x2 x3 x4 σ = some res) : CI l yX5_share wsX5_share 3 [.ref (G.2.1 0), .int x1, .int x2, .int x3, .int x4] G σ (fun r u => r = res.1 ∧ u = res.2) := by
  refine x_ent (ret := (some .int)) cX5_share 8 (by decide) rfl (Nat.le_of_ble_eq_true rfl) ?_
  intro p e s m below meth c ls C hR hS hl
  have C : Cx p s m [.ref (G.2.1 0), .int x1, .int x2, .int x3, .int x4].toArray meth c cX5_share RX5 wsX5_share (some .int) 8 G := C
  have hx := C.1
  have hb := C.2.1
  have hl : lv_has ls 8 [(0, .ref (G.2.1 0)), (1, .int x1), (2, .int x2), (3, .int x3), (4, .int x4)] := hl
  have inX5 : ∀ w ∈ u_ws RX5 TX5 13, w ∈ wsX5_share := fun w h => List.mem_cons_of_mem _ (List.mem_append_left _ (List.mem_append_left _ (List.mem_append_left _ (List.mem_append_right _ h))))
  have inX4 : ∀ w ∈ u_ws RX4 TX4 14, w ∈ wsX5_share := fun w h => List.mem_cons_of_mem _ (List.mem_append_left _ (List.mem_append_left _ (List.mem_append_right _ h)))
  unfold f_X5_share at hf
  refine lv_iload_n hx hb dX5_share_0 rfl (lv_at hl 1 rfl) ?_
  refine lv_iload_n hx hb dX5_share_1 rfl (lv_at hl 2 rfl) ?_
  refine lv_iload_n hx hb dX5_share_2 rfl (lv_at hl 3 rfl) ?_
  refine lv_iconst (v := 0) hx hb dX5_share_3 (by decide) ?_
  obtain ⟨r4_, σ4_, hc_4, hf⟩ := bd_some hf
  refine x_csI C hl.1 hR hS (c_X5_isRun l G x1 x2 x3 0 σ _ hc_4) gX5_share_X5_isRun rfl hdS_X5_isRun ⟨Nat.le_of_ble_eq_true rfl, Nat.le_of_ble_eq_true rfl⟩ rfl (As := [.int x1, .int x2, .int x3, .int 0]) (rest := []) rfl (Nat.le_of_ble_eq_true rfl) ⟨Nat.le_of_ble_eq_true rfl, Nat.le_of_ble_eq_true rfl⟩ dX5_share_4 (fun r4 σ4 H locs hq_4 hR hS => ?_)
  obtain ⟨rfl, rfl⟩ := hq_4
  refine lv_if_eq (tgt := 21) hx hb dX5_share_7 (by decide) (fun c_7 => ?_) (fun c_7 => ?_)
  · replace hf := (if_pos c_7).symm.trans hf
    refine lv_aload_n hx hb dX5_share_21 rfl (lv_at hl 0 rfl) ?_
    obtain ⟨r22_, σ22_, hc_22, hf⟩ := bd_some hf
    refine x_cvI C hl.1 hR hS (c_X5_refusedBadFar l G σ4 _ hc_22) gX5_share_X5_refusedBadFar rfl hdV_X5_refusedBadFar ⟨Nat.le_of_ble_eq_true rfl, Nat.le_of_ble_eq_true rfl⟩ (by decide) (cz4 rfl) rfl rfl (As := []) (rest := []) rfl (Nat.le_of_ble_eq_true rfl) ⟨Nat.le_of_ble_eq_true rfl, Nat.le_of_ble_eq_true rfl⟩ dX5_share_22 (fun r22 σ22 H locs hq_22 hR hS => ?_)
    obtain ⟨rfl, rfl⟩ := hq_22
    obtain rfl := Option.some.inj hf
    exact x_iret C hR hS dX5_share_25 ⟨rfl, rfl⟩
  · replace hf := (if_neg c_7).symm.trans hf
    refine lv_iload hx hb dX5_share_10 (lv_at hl 4 rfl) ?_
    refine lv_iconst (v := 0) hx hb dX5_share_12 (by decide) ?_
    refine lv_bipush (v := 60) hx hb dX5_share_13 (by decide) ?_
    obtain ⟨r15_, σ15_, hc_15, hf⟩ := bd_some hf
    refine x_csI C hl.1 hR hS (c_X5_within l G x4 0 60 σ4 _ hc_15) gX5_share_X5_within rfl hdS_X5_within ⟨Nat.le_of_ble_eq_true rfl, Nat.le_of_ble_eq_true rfl⟩ rfl (As := [.int x4, .int 0, .int 60]) (rest := []) rfl (Nat.le_of_ble_eq_true rfl) ⟨Nat.le_of_ble_eq_true rfl, Nat.le_of_ble_eq_true rfl⟩ dX5_share_15 (fun r15 σ15 H locs hq_15 hR hS => ?_)
    obtain ⟨rfl, rfl⟩ := hq_15
    refine lv_if_ne (tgt := 26) hx hb dX5_share_18 (by decide) (fun c_18 => ?_) (fun c_18 => ?_)
    · replace hf := (if_neg c_18).symm.trans hf
      refine lv_aload_n hx hb dX5_share_26 rfl (lv_at hl 0 rfl) ?_
      refine x_get C hR inX5 0 (by decide) (cz4 rfl) rfl 4 (by decide) 1 rfl (.ref (G.2.1 61)) rfl dX5_share_27 ?_
      refine lv_aload_n hx hb dX5_share_30 rfl (lv_at hl 0 rfl) ?_
      refine x_get C hR inX5 0 (by decide) (cz4 rfl) rfl 0 (by decide) 2 rfl (.ref (G.2.1 1)) rfl dX5_share_31 ?_
      refine lv_iload_n hx hb dX5_share_34 rfl (lv_at hl 1 rfl) ?_
      refine lv_iload_n hx hb dX5_share_35 rfl (lv_at hl 2 rfl) ?_
      refine lv_iload_n hx hb dX5_share_36 rfl (lv_at hl 3 rfl) ?_
      refine lv_iconst (v := 0) hx hb dX5_share_37 (by decide) ?_
      obtain ⟨σ38_, hc_38, hf⟩ := bv_some hf
      refine x_cvV C hl.1 hR hS (c_X4_tell l G x1 x2 x3 0 σ15 _ hc_38) gX5_share_X4_tell rfl hdV_X4_tell ⟨Nat.le_of_ble_eq_true rfl, Nat.le_of_ble_eq_true rfl⟩ (by decide) (cz3 rfl) rfl rfl (As := [.ref (G.2.1 1), .int x1, .int x2, .int x3, .int 0]) (rest := []) rfl (Nat.le_of_ble_eq_true rfl) ⟨Nat.le_of_ble_eq_true rfl, Nat.le_of_ble_eq_true rfl⟩ dX5_share_38 (fun σ38 H locs hq_38 hR hS => ?_)
      subst hq_38
      refine lv_aload_n hx hb dX5_share_41 rfl (lv_at hl 0 rfl) ?_
      refine x_get C hR inX5 0 (by decide) (cz4 rfl) rfl 4 (by decide) 1 rfl (.ref (G.2.1 61)) rfl dX5_share_42 ?_
      refine lv_aload_n hx hb dX5_share_45 rfl (lv_at hl 0 rfl) ?_
      refine x_get C hR inX5 0 (by decide) (cz4 rfl) rfl 0 (by decide) 2 rfl (.ref (G.2.1 1)) rfl dX5_share_46 ?_
      obtain ⟨r49_, σ49_, hc_49, hf⟩ := bd_some hf
      refine x_cvI C hl.1 hR hS (c_X4_go l G σ38 _ hc_49) gX5_share_X4_go rfl hdV_X4_go ⟨Nat.le_of_ble_eq_true rfl, Nat.le_of_ble_eq_true rfl⟩ (by decide) (cz3 rfl) rfl rfl (As := [.ref (G.2.1 1)]) (rest := []) rfl (Nat.le_of_ble_eq_true rfl) ⟨Nat.le_of_ble_eq_true rfl, Nat.le_of_ble_eq_true rfl⟩ dX5_share_49 (fun r49 σ49 H locs hq_49 hR hS => ?_)
      obtain ⟨rfl, rfl⟩ := hq_49
      refine lv_istore (lv' := [(5, .int r49), (0, .ref (G.2.1 0)), (1, .int x1), (2, .int x2), (3, .int x3), (4, .int x4)]) hx hb dX5_share_52 hl (by decide) rfl (fun ls hl => ?_)
      refine lv_aload_n hx hb dX5_share_54 rfl (lv_at hl 1 rfl) ?_
      refine x_get C hR inX5 0 (by decide) (cz4 rfl) rfl 4 (by decide) 1 rfl (.ref (G.2.1 61)) rfl dX5_share_55 ?_
      refine lv_aload_n hx hb dX5_share_58 rfl (lv_at hl 1 rfl) ?_
      refine x_get C hR inX5 0 (by decide) (cz4 rfl) rfl 4 (by decide) 1 rfl (.ref (G.2.1 61)) rfl dX5_share_59 ?_
      refine lv_aload_n hx hb dX5_share_62 rfl (lv_at hl 1 rfl) ?_
      refine x_get C hR inX5 0 (by decide) (cz4 rfl) rfl 0 (by decide) 2 rfl (.ref (G.2.1 1)) rfl dX5_share_63 ?_
      obtain ⟨r66_, σ66_, hc_66, hf⟩ := bd_some hf
      refine x_cvI C hl.1 hR hS (c_X4_standsBehind l G σ49 _ hc_66) gX5_share_X4_standsBehind rfl hdV_X4_standsBehind ⟨Nat.le_of_ble_eq_true rfl, Nat.le_of_ble_eq_true rfl⟩ (by decide) (cz3 rfl) rfl rfl (As := [.ref (G.2.1 1)]) (rest := [.ref (G.2.1 61)]) rfl (Nat.le_of_ble_eq_true rfl) ⟨Nat.le_of_ble_eq_true rfl, Nat.le_of_ble_eq_true rfl⟩ dX5_share_66 (fun r66 σ66 H locs hq_66 hR hS => ?_)
      obtain ⟨rfl, rfl⟩ := hq_66
      refine x_put (τ := (pI σ66 61 5 r66)) C hR hS inX4 tyX4 tyX4_ok nmX4 61 (by decide) (cz3 rfl) rfl 5 (by decide) (pfI3_5 rfl) pI_o 3 rfl rfl rfl rfl (Nat.le_of_ble_eq_true rfl) dX5_share_69 (fun H locs hR hS => ?_)
      refine lv_iload hx hb dX5_share_72 (lv_at hl 0 rfl) ?_
      refine lv_iload hx hb dX5_share_74 (lv_at hl 5 rfl) ?_
      refine va_mmax hx hb (C.2.2.2.1.trans hl.1.symm) C.2.2.2.2.1 (C.2.2.2.2.2.1 _ (List.mem_of_getElem? (i := 4) rfl)) (C.2.2.2.2.2.1 _ (List.mem_of_getElem? (i := 5) rfl)) (C.2.2.2.2.2.1 _ (List.mem_of_getElem? (i := 6) rfl)) (C.2.2.2.2.2.1 _ (List.mem_of_getElem? (i := 7) rfl)) (Nat.le_of_ble_eq_true rfl) (Nat.le_of_ble_eq_true rfl) (Nat.le_of_ble_eq_true rfl) (Nat.le_of_ble_eq_true rfl) dX5_share_76 ?_
      refine lv_aload_n hx hb dX5_share_79 rfl (lv_at hl 1 rfl) ?_
      refine x_get C hR inX5 0 (by decide) (cz4 rfl) rfl 4 (by decide) 1 rfl (.ref (G.2.1 61)) rfl dX5_share_80 ?_
      refine lv_aload_n hx hb dX5_share_83 rfl (lv_at hl 1 rfl) ?_
      refine x_get C hR inX5 0 (by decide) (cz4 rfl) rfl 0 (by decide) 2 rfl (.ref (G.2.1 1)) rfl dX5_share_84 ?_
      obtain ⟨r87_, σ87_, hc_87, hf⟩ := bd_some hf
      refine x_cvI C hl.1 hR hS (c_X4_go l G (pI σ66 61 5 r66) _ hc_87) gX5_share_X4_go rfl hdV_X4_go ⟨Nat.le_of_ble_eq_true rfl, Nat.le_of_ble_eq_true rfl⟩ (by decide) (cz3 rfl) rfl rfl (As := [.ref (G.2.1 1)]) (rest := [.int (if r49 < x4 then x4 else r49)]) rfl (Nat.le_of_ble_eq_true rfl) ⟨Nat.le_of_ble_eq_true rfl, Nat.le_of_ble_eq_true rfl⟩ dX5_share_87 (fun r87 σ87 H locs hq_87 hR hS => ?_)
      obtain ⟨rfl, rfl⟩ := hq_87
      refine lv_iadd hx hb dX5_share_90 ?_
      refine lv_istore (lv' := [(6, .int ((if r49 < x4 then x4 else r49) + r87)), (5, .int r49), (0, .ref (G.2.1 0)), (1, .int x1), (2, .int x2), (3, .int x3), (4, .int x4)]) hx hb dX5_share_91 hl (by decide) rfl (fun ls hl => ?_)
      refine lv_aload_n hx hb dX5_share_93 rfl (lv_at hl 2 rfl) ?_
      refine x_get C hR inX5 0 (by decide) (cz4 rfl) rfl 4 (by decide) 1 rfl (.ref (G.2.1 61)) rfl dX5_share_94 ?_
      refine lv_aload_n hx hb dX5_share_97 rfl (lv_at hl 2 rfl) ?_
      refine x_get C hR inX5 0 (by decide) (cz4 rfl) rfl 0 (by decide) 2 rfl (.ref (G.2.1 1)) rfl dX5_share_98 ?_
      refine lv_iload_n hx hb dX5_share_101 rfl (lv_at hl 3 rfl) ?_
      refine lv_iload_n hx hb dX5_share_102 rfl (lv_at hl 4 rfl) ?_
      refine lv_iload_n hx hb dX5_share_103 rfl (lv_at hl 5 rfl) ?_
      refine lv_iconst (v := 0) hx hb dX5_share_104 (by decide) ?_
      obtain ⟨σ105_, hc_105, hf⟩ := bv_some hf
      refine x_cvV C hl.1 hR hS (c_X4_tell l G x1 x2 x3 0 σ87 _ hc_105) gX5_share_X4_tell rfl hdV_X4_tell ⟨Nat.le_of_ble_eq_true rfl, Nat.le_of_ble_eq_true rfl⟩ (by decide) (cz3 rfl) rfl rfl (As := [.ref (G.2.1 1), .int x1, .int x2, .int x3, .int 0]) (rest := []) rfl (Nat.le_of_ble_eq_true rfl) ⟨Nat.le_of_ble_eq_true rfl, Nat.le_of_ble_eq_true rfl⟩ dX5_share_105 (fun σ105 H locs hq_105 hR hS => ?_)
      subst hq_105
      refine lv_aload_n hx hb dX5_share_108 rfl (lv_at hl 2 rfl) ?_
      refine x_get C hR inX5 0 (by decide) (cz4 rfl) rfl 4 (by decide) 1 rfl (.ref (G.2.1 61)) rfl dX5_share_109 ?_
      refine lv_iconst (v := 3) hx hb dX5_share_112 (by decide) ?_
      refine x_put (τ := (pI σ105 61 6 3)) C hR hS inX4 tyX4 tyX4_ok nmX4 61 (by decide) (cz3 rfl) rfl 6 (by decide) (pfI3_6 rfl) pI_o 8 rfl rfl rfl rfl (Nat.le_of_ble_eq_true rfl) dX5_share_113 (fun H locs hR hS => ?_)
      refine lv_iload hx hb dX5_share_116 (lv_at hl 6 rfl) ?_
      refine lv_aload_n hx hb dX5_share_118 rfl (lv_at hl 2 rfl) ?_
      refine x_get C hR inX5 0 (by decide) (cz4 rfl) rfl 4 (by decide) 1 rfl (.ref (G.2.1 61)) rfl dX5_share_119 ?_
      refine lv_aload_n hx hb dX5_share_122 rfl (lv_at hl 2 rfl) ?_
      refine x_get C hR inX5 0 (by decide) (cz4 rfl) rfl 0 (by decide) 2 rfl (.ref (G.2.1 1)) rfl dX5_share_123 ?_
      obtain ⟨r126_, σ126_, hc_126, hf⟩ := bd_some hf
      refine x_cvI C hl.1 hR hS (c_X4_go l G (pI σ105 61 6 3) _ hc_126) gX5_share_X4_go rfl hdV_X4_go ⟨Nat.le_of_ble_eq_true rfl, Nat.le_of_ble_eq_true rfl⟩ (by decide) (cz3 rfl) rfl rfl (As := [.ref (G.2.1 1)]) (rest := [.int x4]) rfl (Nat.le_of_ble_eq_true rfl) ⟨Nat.le_of_ble_eq_true rfl, Nat.le_of_ble_eq_true rfl⟩ dX5_share_126 (fun r126 σ126 H locs hq_126 hR hS => ?_)
      obtain ⟨rfl, rfl⟩ := hq_126
      refine lv_iadd hx hb dX5_share_129 ?_
      refine lv_istore (lv' := [(7, .int (x4 + r126)), (6, .int ((if r49 < x4 then x4 else r49) + r87)), (5, .int r49), (0, .ref (G.2.1 0)), (1, .int x1), (2, .int x2), (3, .int x3), (4, .int x4)]) hx hb dX5_share_130 hl (by decide) rfl (fun ls hl => ?_)
      refine lv_iload hx hb dX5_share_132 (lv_at hl 1 rfl) ?_
      refine lv_iload hx hb dX5_share_134 (lv_at hl 0 rfl) ?_
      refine lv_isub hx hb dX5_share_136 ?_
      obtain rfl := Option.some.inj hf
      exact x_iret C hR hS dX5_share_137 ⟨rfl, rfl⟩
    · replace hf := (if_pos c_18).symm.trans hf
      refine lv_aload_n hx hb dX5_share_21 rfl (lv_at hl 0 rfl) ?_
      obtain ⟨r22_, σ22_, hc_22, hf⟩ := bd_some hf
      refine x_cvI C hl.1 hR hS (c_X5_refusedBadFar l G σ15 _ hc_22) gX5_share_X5_refusedBadFar rfl hdV_X5_refusedBadFar ⟨Nat.le_of_ble_eq_true rfl, Nat.le_of_ble_eq_true rfl⟩ (by decide) (cz4 rfl) rfl rfl (As := []) (rest := []) rfl (Nat.le_of_ble_eq_true rfl) ⟨Nat.le_of_ble_eq_true rfl, Nat.le_of_ble_eq_true rfl⟩ dX5_share_22 (fun r22 σ22 H locs hq_22 hR hS => ?_)
      obtain ⟨rfl, rfl⟩ := hq_22
      obtain rfl := Option.some.inj hf
      exact x_iret C hR hS dX5_share_25 ⟨rfl, rfl⟩
theorem hdV_X5_key : yX5_key.cls = RX5 ∧ yX5_key.cls ≠ "java/lang/invoke/MethodHandle" ∧ yX5_key.cls ≠ "java/lang/invoke/VarHandle" ∧ (parseMethodDescriptor yX5_key.desc).map (fun d => d.parameters.length) = some 3 := by decide +kernel
def f_X5_key_47 : Nat → Int32 → Int32 → Int32 → Int32 → St → Option (Int32 × St)
  | 0, _, _, _, _, _ => none
  | n + 1, x1, x3, x4, x5, σ => (if x3 ≤ x5 then some (x4, σ) else bd (f_X0_roadBehind_1 x1 x5 σ) (fun r63 σ63 => bd (f_X5_halfCutUp r63 σ63) (fun r66 σ66 => (f_X5_key_47 n) x1 x3 (x4 + (2 * r66)) (x5 + 1) σ66)))
def f_X5_key (x1 : Int32) (x2 : Int32) (x3 : Int32) (σ : St) : Option (Int32 × St) :=
  bd (f_X5_within x1 0 1 σ) (fun r3 σ3 => (if r3 = 0 then bd (f_X5_refusedBad σ3) (fun r37 σ37 => some (r37, σ37)) else bd (f_X0_has_1 x2 σ3) (fun r14 σ14 => (if r14 = 0 then bd (f_X5_refusedBad σ14) (fun r37 σ37 => some (r37, σ37)) else bd (f_X0_has_1 x3 σ14) (fun r25 σ25 => (if r25 = 0 then bd (f_X5_refusedBad σ25) (fun r37 σ37 => some (r37, σ37)) else (if x2 ≤ x3 then f_X5_key_47 FU x1 x3 0 x2 σ25 else bd (f_X5_refusedBad σ25) (fun r37 σ37 => some (r37, σ37)))))))))
set_option maxHeartbeats 4000000 in
set_option maxRecDepth 100000 in
theorem w_X5_key_47 {p : Program} {l : Launch} {e : Env} {s : State} {m : MethodId} {args : Array Value} {below : List Frame} {meth : Method} {c : Code} {G : GG} (C : Cx p s m args meth c cX5_key RX5 wsX5_key (some .int) 6 G) {res : Int32 × St} : ∀ (n : Nat) (x1 : Int32) (x3 : Int32) (x4 : Int32) (x5 : Int32) (σ : St), f_X5_key_47 n x1 x3 x4 x5 σ = some res → WC p l e 2 s m args below meth c G (QI G res) 6 47 [(0, .ref (G.2.1 0)), (1, .int x1), (3, .int x3), (4, .int x4), (5, .int x5)] [] σ := by
  have hx := C.1
  have hb := C.2.1
  have inX5 : ∀ w ∈ u_ws RX5 TX5 13, w ∈ wsX5_key := fun w h => List.mem_cons_of_mem _ (List.mem_append_left _ (List.mem_append_left _ (List.mem_append_right _ h)))
  intro n
  induction n with
  | zero => intro x1 x3 x4 x5 σ hf; cases hf
  | succ n hrc47 =>
    intro x1 x3 x4 x5 σ hf _ _ _ hR hS hl
    unfold f_X5_key_47 at hf
    refine lv_iload hx hb dX5_key_47 (lv_at hl 4 rfl) ?_
    refine lv_iload_n hx hb dX5_key_49 rfl (lv_at hl 2 rfl) ?_
    refine lv_icmp_ge (tgt := 79) hx hb dX5_key_50 (by decide) (fun c_50 => ?_) (fun c_50 => ?_)
    · replace hf := (if_pos c_50).symm.trans hf
      refine lv_iload hx hb dX5_key_79 (lv_at hl 3 rfl) ?_
      obtain rfl := Option.some.inj hf
      exact x_iret C hR hS dX5_key_81 ⟨rfl, rfl⟩
    · replace hf := (if_neg c_50).symm.trans hf
      refine lv_iload hx hb dX5_key_53 (lv_at hl 3 rfl) ?_
      refine lv_iconst (v := 2) hx hb dX5_key_55 (by decide) ?_
      refine lv_aload_n hx hb dX5_key_56 rfl (lv_at hl 0 rfl) ?_
      refine x_get C hR inX5 0 (by decide) (cz4 rfl) rfl 0 (by decide) 1 rfl (.ref (G.2.1 1)) rfl dX5_key_57 ?_
      refine lv_iload_n hx hb dX5_key_60 rfl (lv_at hl 1 rfl) ?_
      refine lv_iload hx hb dX5_key_61 (lv_at hl 4 rfl) ?_
      obtain ⟨r63_, σ63_, hc_63, hf⟩ := bd_some hf
      refine x_cvI C hl.1 hR hS (c_X0_roadBehind_1 l G x1 x5 σ _ hc_63) gX5_key_X0_roadBehind rfl hdV_X0_roadBehind ⟨Nat.le_of_ble_eq_true rfl, Nat.le_of_ble_eq_true rfl⟩ (by decide) (cz0 rfl) rfl rfl (As := [.int x1, .int x5]) (rest := [.int 2, .int x4]) rfl (Nat.le_of_ble_eq_true rfl) ⟨Nat.le_of_ble_eq_true rfl, Nat.le_of_ble_eq_true rfl⟩ dX5_key_63 (fun r63 σ63 H locs hq_63 hR hS => ?_)
      obtain ⟨rfl, rfl⟩ := hq_63
      obtain ⟨r66_, σ66_, hc_66, hf⟩ := bd_some hf
      refine x_csI C hl.1 hR hS (c_X5_halfCutUp l G r63 σ63 _ hc_66) gX5_key_X5_halfCutUp rfl hdS_X5_halfCutUp ⟨Nat.le_of_ble_eq_true rfl, Nat.le_of_ble_eq_true rfl⟩ rfl (As := [.int r63]) (rest := [.int 2, .int x4]) rfl (Nat.le_of_ble_eq_true rfl) ⟨Nat.le_of_ble_eq_true rfl, Nat.le_of_ble_eq_true rfl⟩ dX5_key_66 (fun r66 σ66 H locs hq_66 hR hS => ?_)
      obtain ⟨rfl, rfl⟩ := hq_66
      refine lv_imul hx hb dX5_key_69 ?_
      refine lv_iadd hx hb dX5_key_70 ?_
      refine lv_istore (lv' := [(4, .int (x4 + (2 * r66))), (0, .ref (G.2.1 0)), (1, .int x1), (3, .int x3), (5, .int x5)]) hx hb dX5_key_71 hl (by decide) rfl (fun ls hl => ?_)
      refine lv_iinc (v := x5 + 1) (lv' := [(5, .int (x5 + 1)), (4, .int (x4 + (2 * r66))), (0, .ref (G.2.1 0)), (1, .int x1), (3, .int x3)]) hx hb dX5_key_73 hl (k := 4) rfl rfl (by decide) rfl (fun ls hl => ?_)
      refine lv_goto (tgt := 47) hx hb dX5_key_76 (by decide) ?_
      exact hrc47 x1 x3 (x4 + (2 * r66)) (x5 + 1) _ hf _ _ _ hR hS (lv_sub hl [2, 3, 4, 1, 0] rfl)
set_option maxHeartbeats 4000000 in
set_option maxRecDepth 100000 in
theorem c_X5_key (l : Launch) (G : GG) (x1 : Int32) (x2 : Int32) (x3 : Int32) (σ : St) (res : Int32 × St) (hf : f_X5_key x1 x2 x3 σ = some res) : CI l yX5_key wsX5_key 2 [.ref (G.2.1 0), .int x1, .int x2, .int x3] G σ (fun r u => r = res.1 ∧ u = res.2) := by
  refine x_ent (ret := (some .int)) cX5_key 6 (by decide) rfl (Nat.le_of_ble_eq_true rfl) ?_
  intro p e s m below meth c ls C hR hS hl
  have C : Cx p s m [.ref (G.2.1 0), .int x1, .int x2, .int x3].toArray meth c cX5_key RX5 wsX5_key (some .int) 6 G := C
  have hx := C.1
  have hb := C.2.1
  have hl : lv_has ls 6 [(0, .ref (G.2.1 0)), (1, .int x1), (2, .int x2), (3, .int x3)] := hl
  have inX5 : ∀ w ∈ u_ws RX5 TX5 13, w ∈ wsX5_key := fun w h => List.mem_cons_of_mem _ (List.mem_append_left _ (List.mem_append_left _ (List.mem_append_right _ h)))
  unfold f_X5_key at hf
  refine lv_iload_n hx hb dX5_key_0 rfl (lv_at hl 1 rfl) ?_
  refine lv_iconst (v := 0) hx hb dX5_key_1 (by decide) ?_
  refine lv_iconst (v := 1) hx hb dX5_key_2 (by decide) ?_
  obtain ⟨r3_, σ3_, hc_3, hf⟩ := bd_some hf
  refine x_csI C hl.1 hR hS (c_X5_within l G x1 0 1 σ _ hc_3) gX5_key_X5_within rfl hdS_X5_within ⟨Nat.le_of_ble_eq_true rfl, Nat.le_of_ble_eq_true rfl⟩ rfl (As := [.int x1, .int 0, .int 1]) (rest := []) rfl (Nat.le_of_ble_eq_true rfl) ⟨Nat.le_of_ble_eq_true rfl, Nat.le_of_ble_eq_true rfl⟩ dX5_key_3 (fun r3 σ3 H locs hq_3 hR hS => ?_)
  obtain ⟨rfl, rfl⟩ := hq_3
  refine lv_if_eq (tgt := 36) hx hb dX5_key_6 (by decide) (fun c_6 => ?_) (fun c_6 => ?_)
  · replace hf := (if_pos c_6).symm.trans hf
    refine lv_aload_n hx hb dX5_key_36 rfl (lv_at hl 0 rfl) ?_
    obtain ⟨r37_, σ37_, hc_37, hf⟩ := bd_some hf
    refine x_cvI C hl.1 hR hS (c_X5_refusedBad l G σ3 _ hc_37) gX5_key_X5_refusedBad rfl hdV_X5_refusedBad ⟨Nat.le_of_ble_eq_true rfl, Nat.le_of_ble_eq_true rfl⟩ (by decide) (cz4 rfl) rfl rfl (As := []) (rest := []) rfl (Nat.le_of_ble_eq_true rfl) ⟨Nat.le_of_ble_eq_true rfl, Nat.le_of_ble_eq_true rfl⟩ dX5_key_37 (fun r37 σ37 H locs hq_37 hR hS => ?_)
    obtain ⟨rfl, rfl⟩ := hq_37
    obtain rfl := Option.some.inj hf
    exact x_iret C hR hS dX5_key_40 ⟨rfl, rfl⟩
  · replace hf := (if_neg c_6).symm.trans hf
    refine lv_aload_n hx hb dX5_key_9 rfl (lv_at hl 0 rfl) ?_
    refine x_get C hR inX5 0 (by decide) (cz4 rfl) rfl 0 (by decide) 1 rfl (.ref (G.2.1 1)) rfl dX5_key_10 ?_
    refine lv_iload_n hx hb dX5_key_13 rfl (lv_at hl 2 rfl) ?_
    obtain ⟨r14_, σ14_, hc_14, hf⟩ := bd_some hf
    refine x_cvI C hl.1 hR hS (c_X0_has_1 l G x2 σ3 _ hc_14) gX5_key_X0_has rfl hdV_X0_has ⟨Nat.le_of_ble_eq_true rfl, Nat.le_of_ble_eq_true rfl⟩ (by decide) (cz0 rfl) rfl rfl (As := [.int x2]) (rest := []) rfl (Nat.le_of_ble_eq_true rfl) ⟨Nat.le_of_ble_eq_true rfl, Nat.le_of_ble_eq_true rfl⟩ dX5_key_14 (fun r14 σ14 H locs hq_14 hR hS => ?_)
    obtain ⟨rfl, rfl⟩ := hq_14
    refine lv_if_eq (tgt := 36) hx hb dX5_key_17 (by decide) (fun c_17 => ?_) (fun c_17 => ?_)
    · replace hf := (if_pos c_17).symm.trans hf
      refine lv_aload_n hx hb dX5_key_36 rfl (lv_at hl 0 rfl) ?_
      obtain ⟨r37_, σ37_, hc_37, hf⟩ := bd_some hf
      refine x_cvI C hl.1 hR hS (c_X5_refusedBad l G σ14 _ hc_37) gX5_key_X5_refusedBad rfl hdV_X5_refusedBad ⟨Nat.le_of_ble_eq_true rfl, Nat.le_of_ble_eq_true rfl⟩ (by decide) (cz4 rfl) rfl rfl (As := []) (rest := []) rfl (Nat.le_of_ble_eq_true rfl) ⟨Nat.le_of_ble_eq_true rfl, Nat.le_of_ble_eq_true rfl⟩ dX5_key_37 (fun r37 σ37 H locs hq_37 hR hS => ?_)
      obtain ⟨rfl, rfl⟩ := hq_37
      obtain rfl := Option.some.inj hf
      exact x_iret C hR hS dX5_key_40 ⟨rfl, rfl⟩
    · replace hf := (if_neg c_17).symm.trans hf
      refine lv_aload_n hx hb dX5_key_20 rfl (lv_at hl 0 rfl) ?_
      refine x_get C hR inX5 0 (by decide) (cz4 rfl) rfl 0 (by decide) 1 rfl (.ref (G.2.1 1)) rfl dX5_key_21 ?_
      refine lv_iload_n hx hb dX5_key_24 rfl (lv_at hl 3 rfl) ?_
      obtain ⟨r25_, σ25_, hc_25, hf⟩ := bd_some hf
      refine x_cvI C hl.1 hR hS (c_X0_has_1 l G x3 σ14 _ hc_25) gX5_key_X0_has rfl hdV_X0_has ⟨Nat.le_of_ble_eq_true rfl, Nat.le_of_ble_eq_true rfl⟩ (by decide) (cz0 rfl) rfl rfl (As := [.int x3]) (rest := []) rfl (Nat.le_of_ble_eq_true rfl) ⟨Nat.le_of_ble_eq_true rfl, Nat.le_of_ble_eq_true rfl⟩ dX5_key_25 (fun r25 σ25 H locs hq_25 hR hS => ?_)
      obtain ⟨rfl, rfl⟩ := hq_25
      refine lv_if_eq (tgt := 36) hx hb dX5_key_28 (by decide) (fun c_28 => ?_) (fun c_28 => ?_)
      · replace hf := (if_pos c_28).symm.trans hf
        refine lv_aload_n hx hb dX5_key_36 rfl (lv_at hl 0 rfl) ?_
        obtain ⟨r37_, σ37_, hc_37, hf⟩ := bd_some hf
        refine x_cvI C hl.1 hR hS (c_X5_refusedBad l G σ25 _ hc_37) gX5_key_X5_refusedBad rfl hdV_X5_refusedBad ⟨Nat.le_of_ble_eq_true rfl, Nat.le_of_ble_eq_true rfl⟩ (by decide) (cz4 rfl) rfl rfl (As := []) (rest := []) rfl (Nat.le_of_ble_eq_true rfl) ⟨Nat.le_of_ble_eq_true rfl, Nat.le_of_ble_eq_true rfl⟩ dX5_key_37 (fun r37 σ37 H locs hq_37 hR hS => ?_)
        obtain ⟨rfl, rfl⟩ := hq_37
        obtain rfl := Option.some.inj hf
        exact x_iret C hR hS dX5_key_40 ⟨rfl, rfl⟩
      · replace hf := (if_neg c_28).symm.trans hf
        refine lv_iload_n hx hb dX5_key_31 rfl (lv_at hl 2 rfl) ?_
        refine lv_iload_n hx hb dX5_key_32 rfl (lv_at hl 3 rfl) ?_
        refine lv_icmp_le (tgt := 41) hx hb dX5_key_33 (by decide) (fun c_33 => ?_) (fun c_33 => ?_)
        · replace hf := (if_pos c_33).symm.trans hf
          refine lv_iconst (v := 0) hx hb dX5_key_41 (by decide) ?_
          refine lv_istore (lv' := [(4, .int 0), (0, .ref (G.2.1 0)), (1, .int x1), (2, .int x2), (3, .int x3)]) hx hb dX5_key_42 hl (by decide) rfl (fun ls hl => ?_)
          refine lv_iload_n hx hb dX5_key_44 rfl (lv_at hl 3 rfl) ?_
          refine lv_istore (lv' := [(5, .int x2), (4, .int 0), (0, .ref (G.2.1 0)), (1, .int x1), (2, .int x2), (3, .int x3)]) hx hb dX5_key_45 hl (by decide) rfl (fun ls hl => ?_)
          exact w_X5_key_47 C  FU x1 x3 0 x2 _ hf _ _ _ hR hS (lv_sub hl [2, 3, 5, 1, 0] rfl)
        · replace hf := (if_neg c_33).symm.trans hf
          refine lv_aload_n hx hb dX5_key_36 rfl (lv_at hl 0 rfl) ?_
          obtain ⟨r37_, σ37_, hc_37, hf⟩ := bd_some hf
          refine x_cvI C hl.1 hR hS (c_X5_refusedBad l G σ25 _ hc_37) gX5_key_X5_refusedBad rfl hdV_X5_refusedBad ⟨Nat.le_of_ble_eq_true rfl, Nat.le_of_ble_eq_true rfl⟩ (by decide) (cz4 rfl) rfl rfl (As := []) (rest := []) rfl (Nat.le_of_ble_eq_true rfl) ⟨Nat.le_of_ble_eq_true rfl, Nat.le_of_ble_eq_true rfl⟩ dX5_key_37 (fun r37 σ37 H locs hq_37 hR hS => ?_)
          obtain ⟨rfl, rfl⟩ := hq_37
          obtain rfl := Option.some.inj hf
          exact x_iret C hR hS dX5_key_40 ⟨rfl, rfl⟩
theorem hdV_X5_reading : yX5_reading.cls = RX5 ∧ yX5_reading.cls ≠ "java/lang/invoke/MethodHandle" ∧ yX5_reading.cls ≠ "java/lang/invoke/VarHandle" ∧ (parseMethodDescriptor yX5_reading.desc).map (fun d => d.parameters.length) = some 2 := by decide +kernel
def f_X5_reading (x1 : Int32) (x2 : Int32) (σ : St) : Option (Int32 × St) :=
  bd (f_X0_has_1 x1 σ) (fun r5 σ5 => (if r5 = 0 then bd (f_X5_refusedBad σ5) (fun r23 σ23 => some (r23, σ23)) else bd (f_X5_within x2 0 999 σ5) (fun r16 σ16 => (if r16 = 0 then bd (f_X5_refusedBad σ16) (fun r23 σ23 => some (r23, σ23)) else (if (sI σ16 1 5) < 6 then bv (f_X0_addReading_1 x1 x2 σ16) (fun σ50 => some ((sI σ50 1 5) - 1, σ50)) else bd (f_X5_refusedFull σ16) (fun r40 σ40 => some (r40, σ40)))))))
set_option maxHeartbeats 4000000 in
set_option maxRecDepth 100000 in
theorem c_X5_reading (l : Launch) (G : GG) (x1 : Int32) (x2 : Int32) (σ : St) (res : Int32 × St) (hf : f_X5_reading x1 x2 σ = some res) : CI l yX5_reading wsX5_reading 2 [.ref (G.2.1 0), .int x1, .int x2] G σ (fun r u => r = res.1 ∧ u = res.2) := by
  refine x_ent (ret := (some .int)) cX5_reading 3 (by decide) rfl (Nat.le_of_ble_eq_true rfl) ?_
  intro p e s m below meth c ls C hR hS hl
  have C : Cx p s m [.ref (G.2.1 0), .int x1, .int x2].toArray meth c cX5_reading RX5 wsX5_reading (some .int) 3 G := C
  have hx := C.1
  have hb := C.2.1
  have hl : lv_has ls 3 [(0, .ref (G.2.1 0)), (1, .int x1), (2, .int x2)] := hl
  have inX5 : ∀ w ∈ u_ws RX5 TX5 13, w ∈ wsX5_reading := fun w h => List.mem_cons_of_mem _ (List.mem_append_left _ (List.mem_append_left _ (List.mem_append_right _ h)))
  have inX0 : ∀ w ∈ u_ws RX0 TX0 14, w ∈ wsX5_reading := fun w h => List.mem_cons_of_mem _ (List.mem_append_left _ (List.mem_append_right _ h))
  unfold f_X5_reading at hf
  refine lv_aload_n hx hb dX5_reading_0 rfl (lv_at hl 0 rfl) ?_
  refine x_get C hR inX5 0 (by decide) (cz4 rfl) rfl 0 (by decide) 1 rfl (.ref (G.2.1 1)) rfl dX5_reading_1 ?_
  refine lv_iload_n hx hb dX5_reading_4 rfl (lv_at hl 1 rfl) ?_
  obtain ⟨r5_, σ5_, hc_5, hf⟩ := bd_some hf
  refine x_cvI C hl.1 hR hS (c_X0_has_1 l G x1 σ _ hc_5) gX5_reading_X0_has rfl hdV_X0_has ⟨Nat.le_of_ble_eq_true rfl, Nat.le_of_ble_eq_true rfl⟩ (by decide) (cz0 rfl) rfl rfl (As := [.int x1]) (rest := []) rfl (Nat.le_of_ble_eq_true rfl) ⟨Nat.le_of_ble_eq_true rfl, Nat.le_of_ble_eq_true rfl⟩ dX5_reading_5 (fun r5 σ5 H locs hq_5 hR hS => ?_)
  obtain ⟨rfl, rfl⟩ := hq_5
  refine lv_if_eq (tgt := 22) hx hb dX5_reading_8 (by decide) (fun c_8 => ?_) (fun c_8 => ?_)
  · replace hf := (if_pos c_8).symm.trans hf
    refine lv_aload_n hx hb dX5_reading_22 rfl (lv_at hl 0 rfl) ?_
    obtain ⟨r23_, σ23_, hc_23, hf⟩ := bd_some hf
    refine x_cvI C hl.1 hR hS (c_X5_refusedBad l G σ5 _ hc_23) gX5_reading_X5_refusedBad rfl hdV_X5_refusedBad ⟨Nat.le_of_ble_eq_true rfl, Nat.le_of_ble_eq_true rfl⟩ (by decide) (cz4 rfl) rfl rfl (As := []) (rest := []) rfl (Nat.le_of_ble_eq_true rfl) ⟨Nat.le_of_ble_eq_true rfl, Nat.le_of_ble_eq_true rfl⟩ dX5_reading_23 (fun r23 σ23 H locs hq_23 hR hS => ?_)
    obtain ⟨rfl, rfl⟩ := hq_23
    obtain rfl := Option.some.inj hf
    exact x_iret C hR hS dX5_reading_26 ⟨rfl, rfl⟩
  · replace hf := (if_neg c_8).symm.trans hf
    refine lv_iload_n hx hb dX5_reading_11 rfl (lv_at hl 2 rfl) ?_
    refine lv_iconst (v := 0) hx hb dX5_reading_12 (by decide) ?_
    refine lv_sipush (v := 999) hx hb dX5_reading_13 (by decide) ?_
    obtain ⟨r16_, σ16_, hc_16, hf⟩ := bd_some hf
    refine x_csI C hl.1 hR hS (c_X5_within l G x2 0 999 σ5 _ hc_16) gX5_reading_X5_within rfl hdS_X5_within ⟨Nat.le_of_ble_eq_true rfl, Nat.le_of_ble_eq_true rfl⟩ rfl (As := [.int x2, .int 0, .int 999]) (rest := []) rfl (Nat.le_of_ble_eq_true rfl) ⟨Nat.le_of_ble_eq_true rfl, Nat.le_of_ble_eq_true rfl⟩ dX5_reading_16 (fun r16 σ16 H locs hq_16 hR hS => ?_)
    obtain ⟨rfl, rfl⟩ := hq_16
    refine lv_if_ne (tgt := 27) hx hb dX5_reading_19 (by decide) (fun c_19 => ?_) (fun c_19 => ?_)
    · replace hf := (if_neg c_19).symm.trans hf
      refine lv_aload_n hx hb dX5_reading_27 rfl (lv_at hl 0 rfl) ?_
      refine x_get C hR inX5 0 (by decide) (cz4 rfl) rfl 0 (by decide) 1 rfl (.ref (G.2.1 1)) rfl dX5_reading_28 ?_
      refine x_get C hR inX0 1 (by decide) (cz0 rfl) rfl 5 (by decide) 2 rfl (.int (sI σ16 1 5)) rfl dX5_reading_31 ?_
      refine lv_bipush (v := 6) hx hb dX5_reading_34 (by decide) ?_
      refine lv_icmp_lt (tgt := 44) hx hb dX5_reading_36 (by decide) (fun c_36 => ?_) (fun c_36 => ?_)
      · replace hf := (if_pos c_36).symm.trans hf
        refine lv_aload_n hx hb dX5_reading_44 rfl (lv_at hl 0 rfl) ?_
        refine x_get C hR inX5 0 (by decide) (cz4 rfl) rfl 0 (by decide) 1 rfl (.ref (G.2.1 1)) rfl dX5_reading_45 ?_
        refine lv_iload_n hx hb dX5_reading_48 rfl (lv_at hl 1 rfl) ?_
        refine lv_iload_n hx hb dX5_reading_49 rfl (lv_at hl 2 rfl) ?_
        obtain ⟨σ50_, hc_50, hf⟩ := bv_some hf
        refine x_cvV C hl.1 hR hS (c_X0_addReading_1 l G x1 x2 σ16 _ hc_50) gX5_reading_X0_addReading rfl hdV_X0_addReading ⟨Nat.le_of_ble_eq_true rfl, Nat.le_of_ble_eq_true rfl⟩ (by decide) (cz0 rfl) rfl rfl (As := [.int x1, .int x2]) (rest := []) rfl (Nat.le_of_ble_eq_true rfl) ⟨Nat.le_of_ble_eq_true rfl, Nat.le_of_ble_eq_true rfl⟩ dX5_reading_50 (fun σ50 H locs hq_50 hR hS => ?_)
        subst hq_50
        refine lv_aload_n hx hb dX5_reading_53 rfl (lv_at hl 0 rfl) ?_
        refine x_get C hR inX5 0 (by decide) (cz4 rfl) rfl 0 (by decide) 1 rfl (.ref (G.2.1 1)) rfl dX5_reading_54 ?_
        refine x_get C hR inX0 1 (by decide) (cz0 rfl) rfl 5 (by decide) 2 rfl (.int (sI σ50 1 5)) rfl dX5_reading_57 ?_
        refine lv_iconst (v := 1) hx hb dX5_reading_60 (by decide) ?_
        refine lv_isub hx hb dX5_reading_61 ?_
        obtain rfl := Option.some.inj hf
        exact x_iret C hR hS dX5_reading_62 ⟨rfl, rfl⟩
      · replace hf := (if_neg c_36).symm.trans hf
        refine lv_aload_n hx hb dX5_reading_39 rfl (lv_at hl 0 rfl) ?_
        obtain ⟨r40_, σ40_, hc_40, hf⟩ := bd_some hf
        refine x_cvI C hl.1 hR hS (c_X5_refusedFull l G σ16 _ hc_40) gX5_reading_X5_refusedFull rfl hdV_X5_refusedFull ⟨Nat.le_of_ble_eq_true rfl, Nat.le_of_ble_eq_true rfl⟩ (by decide) (cz4 rfl) rfl rfl (As := []) (rest := []) rfl (Nat.le_of_ble_eq_true rfl) ⟨Nat.le_of_ble_eq_true rfl, Nat.le_of_ble_eq_true rfl⟩ dX5_reading_40 (fun r40 σ40 H locs hq_40 hR hS => ?_)
        obtain ⟨rfl, rfl⟩ := hq_40
        obtain rfl := Option.some.inj hf
        exact x_iret C hR hS dX5_reading_43 ⟨rfl, rfl⟩
    · replace hf := (if_pos c_19).symm.trans hf
      refine lv_aload_n hx hb dX5_reading_22 rfl (lv_at hl 0 rfl) ?_
      obtain ⟨r23_, σ23_, hc_23, hf⟩ := bd_some hf
      refine x_cvI C hl.1 hR hS (c_X5_refusedBad l G σ16 _ hc_23) gX5_reading_X5_refusedBad rfl hdV_X5_refusedBad ⟨Nat.le_of_ble_eq_true rfl, Nat.le_of_ble_eq_true rfl⟩ (by decide) (cz4 rfl) rfl rfl (As := []) (rest := []) rfl (Nat.le_of_ble_eq_true rfl) ⟨Nat.le_of_ble_eq_true rfl, Nat.le_of_ble_eq_true rfl⟩ dX5_reading_23 (fun r23 σ23 H locs hq_23 hR hS => ?_)
      obtain ⟨rfl, rfl⟩ := hq_23
      obtain rfl := Option.some.inj hf
      exact x_iret C hR hS dX5_reading_26 ⟨rfl, rfl⟩
theorem hdV_X5_forget : yX5_forget.cls = RX5 ∧ yX5_forget.cls ≠ "java/lang/invoke/MethodHandle" ∧ yX5_forget.cls ≠ "java/lang/invoke/VarHandle" ∧ (parseMethodDescriptor yX5_forget.desc).map (fun d => d.parameters.length) = some 0 := by decide +kernel
def f_X5_forget (σ : St) : Option (Int32 × St) :=
  some (sI σ 1 5, (pI σ 1 5 0))
set_option maxHeartbeats 4000000 in
set_option maxRecDepth 100000 in
theorem c_X5_forget (l : Launch) (G : GG) (σ : St) (res : Int32 × St) (hf : f_X5_forget σ = some res) : CI l yX5_forget wsX5_forget 0 [.ref (G.2.1 0)] G σ (fun r u => r = res.1 ∧ u = res.2) := by
  refine x_ent (ret := (some .int)) cX5_forget 2 (by decide) rfl (Nat.le_of_ble_eq_true rfl) ?_
  intro p e s m below meth c ls C hR hS hl
  have C : Cx p s m [.ref (G.2.1 0)].toArray meth c cX5_forget RX5 wsX5_forget (some .int) 2 G := C
  have hx := C.1
  have hb := C.2.1
  have hl : lv_has ls 2 [(0, .ref (G.2.1 0))] := hl
  have inX5 : ∀ w ∈ u_ws RX5 TX5 13, w ∈ wsX5_forget := fun w h => List.mem_cons_of_mem _ (List.mem_append_left _ (List.mem_append_right _ h))
  have inX0 : ∀ w ∈ u_ws RX0 TX0 14, w ∈ wsX5_forget := fun w h => List.mem_cons_of_mem _ (List.mem_append_right _ h)
  unfold f_X5_forget at hf
  refine lv_aload_n hx hb dX5_forget_0 rfl (lv_at hl 0 rfl) ?_
  refine x_get C hR inX5 0 (by decide) (cz4 rfl) rfl 0 (by decide) 1 rfl (.ref (G.2.1 1)) rfl dX5_forget_1 ?_
  refine x_get C hR inX0 1 (by decide) (cz0 rfl) rfl 5 (by decide) 2 rfl (.int (sI σ 1 5)) rfl dX5_forget_4 ?_
  refine lv_istore_n (lv' := [(1, .int (sI σ 1 5)), (0, .ref (G.2.1 0))]) hx hb dX5_forget_7 rfl hl (by decide) rfl (fun ls hl => ?_)
  refine lv_aload_n hx hb dX5_forget_8 rfl (lv_at hl 1 rfl) ?_
  refine x_get C hR inX5 0 (by decide) (cz4 rfl) rfl 0 (by decide) 1 rfl (.ref (G.2.1 1)) rfl dX5_forget_9 ?_
  refine lv_iconst (v := 0) hx hb dX5_forget_12 (by decide) ?_
  refine x_put (τ := (pI σ 1 5 0)) C hR hS inX0 tyX0 tyX0_ok nmX0 1 (by decide) (cz0 rfl) rfl 5 (by decide) (pfI0_5 rfl) pI_o 2 rfl rfl rfl rfl (Nat.le_of_ble_eq_true rfl) dX5_forget_13 (fun H locs hR hS => ?_)
  refine lv_iload_n hx hb dX5_forget_16 rfl (lv_at hl 0 rfl) ?_
  obtain rfl := Option.some.inj hf
  exact x_iret C hR hS dX5_forget_17 ⟨rfl, rfl⟩
theorem hdV_X5_readingsFit : yX5_readingsFit.cls = RX5 ∧ yX5_readingsFit.cls ≠ "java/lang/invoke/MethodHandle" ∧ yX5_readingsFit.cls ≠ "java/lang/invoke/VarHandle" ∧ (parseMethodDescriptor yX5_readingsFit.desc).map (fun d => d.parameters.length) = some 0 := by decide +kernel
def f_X5_readingsFit_2 : Nat → Int32 → St → Option (Int32 × St)
  | 0, _, _ => none
  | n + 1, x1, σ => (if (sI σ 1 5) ≤ x1 then some (1, σ) else bd (f_X2_get 7 x1 σ) (fun r28 σ28 => bd (f_X2_get 65 r28 σ28) (fun r31 σ31 => bd (f_X2_get 9 x1 σ31) (fun r42 σ42 => (if r31 = r42 then (f_X5_readingsFit_2 n) (x1 + 1) σ42 else some (0, σ42))))))
def f_X5_readingsFit (σ : St) : Option (Int32 × St) :=
  f_X5_readingsFit_2 FU 0 σ
set_option maxHeartbeats 4000000 in
set_option maxRecDepth 100000 in
theorem w_X5_readingsFit_2 {p : Program} {l : Launch} {e : Env} {s : State} {m : MethodId} {args : Array Value} {below : List Frame} {meth : Method} {c : Code} {G : GG} (C : Cx p s m args meth c cX5_readingsFit RX5 wsX5_readingsFit (some .boolean) 2 G) {res : Int32 × St} : ∀ (n : Nat) (x1 : Int32) (σ : St), f_X5_readingsFit_2 n x1 σ = some res → WC p l e 1 s m args below meth c G (QI G res) 2 2 [(0, .ref (G.2.1 0)), (1, .int x1)] [] σ := by
  have hx := C.1
  have hb := C.2.1
  have inX5 : ∀ w ∈ u_ws RX5 TX5 13, w ∈ wsX5_readingsFit := fun w h => List.mem_cons_of_mem _ (List.mem_append_left _ (List.mem_append_left _ (List.mem_append_left _ (List.mem_append_right _ h))))
  have inX0 : ∀ w ∈ u_ws RX0 TX0 14, w ∈ wsX5_readingsFit := fun w h => List.mem_cons_of_mem _ (List.mem_append_left _ (List.mem_append_left _ (List.mem_append_right _ h)))
  have inX4 : ∀ w ∈ u_ws RX4 TX4 14, w ∈ wsX5_readingsFit := fun w h => List.mem_cons_of_mem _ (List.mem_append_left _ (List.mem_append_right _ h))
  intro n
  induction n with
  | zero => intro x1 σ hf; cases hf
  | succ n hrc2 =>
    intro x1 σ hf _ _ _ hR hS hl
    unfold f_X5_readingsFit_2 at hf
    refine lv_iload_n hx hb dX5_readingsFit_2 rfl (lv_at hl 1 rfl) ?_
    refine lv_aload_n hx hb dX5_readingsFit_3 rfl (lv_at hl 0 rfl) ?_
    refine x_get C hR inX5 0 (by decide) (cz4 rfl) rfl 0 (by decide) 1 rfl (.ref (G.2.1 1)) rfl dX5_readingsFit_4 ?_
    refine x_get C hR inX0 1 (by decide) (cz0 rfl) rfl 5 (by decide) 2 rfl (.int (sI σ 1 5)) rfl dX5_readingsFit_7 ?_
    refine lv_icmp_ge (tgt := 56) hx hb dX5_readingsFit_10 (by decide) (fun c_10 => ?_) (fun c_10 => ?_)
    · replace hf := (if_pos c_10).symm.trans hf
      refine lv_iconst (v := 1) hx hb dX5_readingsFit_56 (by decide) ?_
      obtain rfl := Option.some.inj hf
      exact x_zret C hR hS dX5_readingsFit_57 (by first | rfl | decide | (simp only []; split <;> rfl)) ⟨rfl, rfl⟩
    · replace hf := (if_neg c_10).symm.trans hf
      refine lv_aload_n hx hb dX5_readingsFit_13 rfl (lv_at hl 0 rfl) ?_
      refine x_get C hR inX5 0 (by decide) (cz4 rfl) rfl 4 (by decide) 3 rfl (.ref (G.2.1 61)) rfl dX5_readingsFit_14 ?_
      refine x_get C hR inX4 61 (by decide) (cz3 rfl) rfl 10 (by decide) 4 rfl (.ref (G.2.1 64)) rfl dX5_readingsFit_17 ?_
      refine lv_aload_n hx hb dX5_readingsFit_20 rfl (lv_at hl 0 rfl) ?_
      refine x_get C hR inX5 0 (by decide) (cz4 rfl) rfl 0 (by decide) 1 rfl (.ref (G.2.1 1)) rfl dX5_readingsFit_21 ?_
      refine x_get C hR inX0 1 (by decide) (cz0 rfl) rfl 9 (by decide) 5 rfl (.ref (G.2.1 6)) rfl dX5_readingsFit_24 ?_
      refine lv_iload_n hx hb dX5_readingsFit_27 rfl (lv_at hl 1 rfl) ?_
      obtain ⟨r28_, σ28_, hc_28, hf⟩ := bd_some hf
      refine x_cvI C hl.1 hR hS (c_X2_get l G 7 6 rfl rfl rfl x1 σ _ hc_28) gX5_readingsFit_X2_get rfl hdV_X2_get ⟨Nat.le_of_ble_eq_true rfl, Nat.le_of_ble_eq_true rfl⟩ (by decide) (cz1 rfl) rfl rfl (As := [.int x1]) (rest := [.ref (G.2.1 64)]) rfl (Nat.le_of_ble_eq_true rfl) ⟨Nat.le_of_ble_eq_true rfl, Nat.le_of_ble_eq_true rfl⟩ dX5_readingsFit_28 (fun r28 σ28 H locs hq_28 hR hS => ?_)
      obtain ⟨rfl, rfl⟩ := hq_28
      obtain ⟨r31_, σ31_, hc_31, hf⟩ := bd_some hf
      refine x_cvI C hl.1 hR hS (c_X2_get l G 65 64 rfl rfl rfl r28 σ28 _ hc_31) gX5_readingsFit_X2_get rfl hdV_X2_get ⟨Nat.le_of_ble_eq_true rfl, Nat.le_of_ble_eq_true rfl⟩ (by decide) (cz1 rfl) rfl rfl (As := [.int r28]) (rest := []) rfl (Nat.le_of_ble_eq_true rfl) ⟨Nat.le_of_ble_eq_true rfl, Nat.le_of_ble_eq_true rfl⟩ dX5_readingsFit_31 (fun r31 σ31 H locs hq_31 hR hS => ?_)
      obtain ⟨rfl, rfl⟩ := hq_31
      refine lv_aload_n hx hb dX5_readingsFit_34 rfl (lv_at hl 0 rfl) ?_
      refine x_get C hR inX5 0 (by decide) (cz4 rfl) rfl 0 (by decide) 1 rfl (.ref (G.2.1 1)) rfl dX5_readingsFit_35 ?_
      refine x_get C hR inX0 1 (by decide) (cz0 rfl) rfl 10 (by decide) 6 rfl (.ref (G.2.1 8)) rfl dX5_readingsFit_38 ?_
      refine lv_iload_n hx hb dX5_readingsFit_41 rfl (lv_at hl 1 rfl) ?_
      obtain ⟨r42_, σ42_, hc_42, hf⟩ := bd_some hf
      refine x_cvI C hl.1 hR hS (c_X2_get l G 9 8 rfl rfl rfl x1 σ31 _ hc_42) gX5_readingsFit_X2_get rfl hdV_X2_get ⟨Nat.le_of_ble_eq_true rfl, Nat.le_of_ble_eq_true rfl⟩ (by decide) (cz1 rfl) rfl rfl (As := [.int x1]) (rest := [.int r31]) rfl (Nat.le_of_ble_eq_true rfl) ⟨Nat.le_of_ble_eq_true rfl, Nat.le_of_ble_eq_true rfl⟩ dX5_readingsFit_42 (fun r42 σ42 H locs hq_42 hR hS => ?_)
      obtain ⟨rfl, rfl⟩ := hq_42
      refine lv_icmp_eq (tgt := 50) hx hb dX5_readingsFit_45 (by decide) (fun c_45 => ?_) (fun c_45 => ?_)
      · replace hf := (if_pos c_45).symm.trans hf
        refine lv_iinc (v := x1 + 1) (lv' := [(1, .int (x1 + 1)), (0, .ref (G.2.1 0))]) hx hb dX5_readingsFit_50 hl (k := 1) rfl rfl (by decide) rfl (fun ls hl => ?_)
        refine lv_goto (tgt := 2) hx hb dX5_readingsFit_53 (by decide) ?_
        exact hrc2 (x1 + 1) _ hf _ _ _ hR hS (lv_sub hl [1, 0] rfl)
      · replace hf := (if_neg c_45).symm.trans hf
        refine lv_iconst (v := 0) hx hb dX5_readingsFit_48 (by decide) ?_
        obtain rfl := Option.some.inj hf
        exact x_zret C hR hS dX5_readingsFit_49 (by first | rfl | decide | (simp only []; split <;> rfl)) ⟨rfl, rfl⟩
set_option maxHeartbeats 4000000 in
set_option maxRecDepth 100000 in
theorem c_X5_readingsFit (l : Launch) (G : GG) (σ : St) (res : Int32 × St) (hf : f_X5_readingsFit σ = some res) : CI l yX5_readingsFit wsX5_readingsFit 1 [.ref (G.2.1 0)] G σ (fun r u => r = res.1 ∧ u = res.2) := by
  refine x_ent (ret := (some .boolean)) cX5_readingsFit 2 (by decide) rfl (Nat.le_of_ble_eq_true rfl) ?_
  intro p e s m below meth c ls C hR hS hl
  have C : Cx p s m [.ref (G.2.1 0)].toArray meth c cX5_readingsFit RX5 wsX5_readingsFit (some .boolean) 2 G := C
  have hx := C.1
  have hb := C.2.1
  have hl : lv_has ls 2 [(0, .ref (G.2.1 0))] := hl
  have inX5 : ∀ w ∈ u_ws RX5 TX5 13, w ∈ wsX5_readingsFit := fun w h => List.mem_cons_of_mem _ (List.mem_append_left _ (List.mem_append_left _ (List.mem_append_left _ (List.mem_append_right _ h))))
  have inX0 : ∀ w ∈ u_ws RX0 TX0 14, w ∈ wsX5_readingsFit := fun w h => List.mem_cons_of_mem _ (List.mem_append_left _ (List.mem_append_left _ (List.mem_append_right _ h)))
  have inX4 : ∀ w ∈ u_ws RX4 TX4 14, w ∈ wsX5_readingsFit := fun w h => List.mem_cons_of_mem _ (List.mem_append_left _ (List.mem_append_right _ h))
  unfold f_X5_readingsFit at hf
  refine lv_iconst (v := 0) hx hb dX5_readingsFit_0 (by decide) ?_
  refine lv_istore_n (lv' := [(1, .int 0), (0, .ref (G.2.1 0))]) hx hb dX5_readingsFit_1 rfl hl (by decide) rfl (fun ls hl => ?_)
  exact w_X5_readingsFit_2 C  FU 0 _ hf _ _ _ hR hS (lv_sub hl [1, 0] rfl)
theorem hdV_X5_leads : yX5_leads.cls = RX5 ∧ yX5_leads.cls ≠ "java/lang/invoke/MethodHandle" ∧ yX5_leads.cls ≠ "java/lang/invoke/VarHandle" ∧ (parseMethodDescriptor yX5_leads.desc).map (fun d => d.parameters.length) = some 3 := by decide +kernel
def f_X5_leads_71 (rc20 : Int32 → Int32 → Int32 → Int32 → Int32 → St → Option (Int32 × St)) (x1 : Int32) (x2 : Int32) (x3 : Int32) (x4 : Int32) (x5 : Int32) (σ : St) : Option (Int32 × St) :=
  rc20 x1 x2 x3 x4 (x5 + 1) σ
def f_X5_leads_20 : Nat → Int32 → Int32 → Int32 → Int32 → Int32 → St → Option (Int32 × St)
  | 0, _, _, _, _, _, _ => none
  | n + 1, x1, x2, x3, x4, x5, σ => (if 9 < x5 then some (x4, σ) else bv (f_X4_tell x1 x2 x5 x3 σ) (fun σ40 => bd (f_X4_go σ40) (fun r51 σ51 => bd (f_X5_readingsFit σ51) (fun r56 σ56 => (if r56 = 0 then f_X5_leads_71 (f_X5_leads_20 n) x1 x2 x3 x4 x5 σ56 else f_X5_leads_71 (f_X5_leads_20 n) x1 x2 x3 (x4 ||| (1 <<< (x5 &&& 31))) x5 σ56)))))
def f_X5_leads (x1 : Int32) (x2 : Int32) (x3 : Int32) (σ : St) : Option (Int32 × St) :=
  bd (f_X5_isLedRun x1 x2 x3 σ) (fun r3 σ3 => (if r3 = 0 then bd (f_X5_refusedBad σ3) (fun r10 σ10 => some (r10, σ10)) else f_X5_leads_20 FU x1 x2 x3 0 1 σ3))
set_option maxHeartbeats 4000000 in
set_option maxRecDepth 100000 in
theorem w_X5_leads_71 {p : Program} {l : Launch} {e : Env} {s : State} {m : MethodId} {args : Array Value} {below : List Frame} {meth : Method} {c : Code} {G : GG} (C : Cx p s m args meth c cX5_leads RX5 wsX5_leads (some .int) 6 G) {res : Int32 × St} {rc20 : Int32 → Int32 → Int32 → Int32 → Int32 → St → Option (Int32 × St)} (hrc20 : ∀ (x1 : Int32) (x2 : Int32) (x3 : Int32) (x4 : Int32) (x5 : Int32) (σ : St), rc20 x1 x2 x3 x4 x5 σ = some res → WC p l e 3 s m args below meth c G (QI G res) 6 20 [(0, .ref (G.2.1 0)), (1, .int x1), (2, .int x2), (3, .int x3), (4, .int x4), (5, .int x5)] [] σ) : ∀ (x1 : Int32) (x2 : Int32) (x3 : Int32) (x4 : Int32) (x5 : Int32) (σ : St), f_X5_leads_71 rc20 x1 x2 x3 x4 x5 σ = some res → WC p l e 3 s m args below meth c G (QI G res) 6 71 [(0, .ref (G.2.1 0)), (1, .int x1), (2, .int x2), (3, .int x3), (4, .int x4), (5, .int x5)] [] σ := by
  have hx := C.1
  have hb := C.2.1
  have inX5 : ∀ w ∈ u_ws RX5 TX5 13, w ∈ wsX5_leads := fun w h => List.mem_cons_of_mem _ (List.mem_append_left _ (List.mem_append_left _ (List.mem_append_left _ (List.mem_append_right _ h))))
  intro x1 x2 x3 x4 x5 σ hf _ _ _ hR hS hl
  unfold f_X5_leads_71 at hf
  refine lv_iinc (v := x5 + 1) (lv' := [(5, .int (x5 + 1)), (0, .ref (G.2.1 0)), (1, .int x1), (2, .int x2), (3, .int x3), (4, .int x4)]) hx hb dX5_leads_71 hl (k := 5) rfl rfl (by decide) rfl (fun ls hl => ?_)
  refine lv_goto (tgt := 20) hx hb dX5_leads_74 (by decide) ?_
  exact hrc20 x1 x2 x3 x4 (x5 + 1) _ hf _ _ _ hR hS (lv_sub hl [1, 2, 3, 4, 5, 0] rfl)
set_option maxHeartbeats 4000000 in
set_option maxRecDepth 100000 in
theorem w_X5_leads_20 {p : Program} {l : Launch} {e : Env} {s : State} {m : MethodId} {args : Array Value} {below : List Frame} {meth : Method} {c : Code} {G : GG} (C : Cx p s m args meth c cX5_leads RX5 wsX5_leads (some .int) 6 G) {res : Int32 × St} : ∀ (n : Nat) (x1 : Int32) (x2 : Int32) (x3 : Int32) (x4 : Int32) (x5 : Int32) (σ : St), f_X5_leads_20 n x1 x2 x3 x4 x5 σ = some res → WC p l e 3 s m args below meth c G (QI G res) 6 20 [(0, .ref (G.2.1 0)), (1, .int x1), (2, .int x2), (3, .int x3), (4, .int x4), (5, .int x5)] [] σ := by
  have hx := C.1
  have hb := C.2.1
  have inX5 : ∀ w ∈ u_ws RX5 TX5 13, w ∈ wsX5_leads := fun w h => List.mem_cons_of_mem _ (List.mem_append_left _ (List.mem_append_left _ (List.mem_append_left _ (List.mem_append_right _ h))))
  intro n
  induction n with
  | zero => intro x1 x2 x3 x4 x5 σ hf; cases hf
  | succ n hrc20 =>
    intro x1 x2 x3 x4 x5 σ hf _ _ _ hR hS hl
    unfold f_X5_leads_20 at hf
    refine lv_iload hx hb dX5_leads_20 (lv_at hl 5 rfl) ?_
    refine lv_bipush (v := 9) hx hb dX5_leads_22 (by decide) ?_
    refine lv_icmp_gt (tgt := 77) hx hb dX5_leads_24 (by decide) (fun c_24 => ?_) (fun c_24 => ?_)
    · replace hf := (if_pos c_24).symm.trans hf
      refine lv_iload hx hb dX5_leads_77 (lv_at hl 4 rfl) ?_
      obtain rfl := Option.some.inj hf
      exact x_iret C hR hS dX5_leads_79 ⟨rfl, rfl⟩
    · replace hf := (if_neg c_24).symm.trans hf
      refine lv_aload_n hx hb dX5_leads_27 rfl (lv_at hl 0 rfl) ?_
      refine x_get C hR inX5 0 (by decide) (cz4 rfl) rfl 4 (by decide) 1 rfl (.ref (G.2.1 61)) rfl dX5_leads_28 ?_
      refine lv_aload_n hx hb dX5_leads_31 rfl (lv_at hl 0 rfl) ?_
      refine x_get C hR inX5 0 (by decide) (cz4 rfl) rfl 0 (by decide) 2 rfl (.ref (G.2.1 1)) rfl dX5_leads_32 ?_
      refine lv_iload_n hx hb dX5_leads_35 rfl (lv_at hl 1 rfl) ?_
      refine lv_iload_n hx hb dX5_leads_36 rfl (lv_at hl 2 rfl) ?_
      refine lv_iload hx hb dX5_leads_37 (lv_at hl 5 rfl) ?_
      refine lv_iload_n hx hb dX5_leads_39 rfl (lv_at hl 3 rfl) ?_
      obtain ⟨σ40_, hc_40, hf⟩ := bv_some hf
      refine x_cvV C hl.1 hR hS (c_X4_tell l G x1 x2 x5 x3 σ _ hc_40) gX5_leads_X4_tell rfl hdV_X4_tell ⟨Nat.le_of_ble_eq_true rfl, Nat.le_of_ble_eq_true rfl⟩ (by decide) (cz3 rfl) rfl rfl (As := [.ref (G.2.1 1), .int x1, .int x2, .int x5, .int x3]) (rest := []) rfl (Nat.le_of_ble_eq_true rfl) ⟨Nat.le_of_ble_eq_true rfl, Nat.le_of_ble_eq_true rfl⟩ dX5_leads_40 (fun σ40 H locs hq_40 hR hS => ?_)
      subst hq_40
      refine lv_aload_n hx hb dX5_leads_43 rfl (lv_at hl 0 rfl) ?_
      refine x_get C hR inX5 0 (by decide) (cz4 rfl) rfl 4 (by decide) 1 rfl (.ref (G.2.1 61)) rfl dX5_leads_44 ?_
      refine lv_aload_n hx hb dX5_leads_47 rfl (lv_at hl 0 rfl) ?_
      refine x_get C hR inX5 0 (by decide) (cz4 rfl) rfl 0 (by decide) 2 rfl (.ref (G.2.1 1)) rfl dX5_leads_48 ?_
      obtain ⟨r51_, σ51_, hc_51, hf⟩ := bd_some hf
      refine x_cvI C hl.1 hR hS (c_X4_go l G σ40 _ hc_51) gX5_leads_X4_go rfl hdV_X4_go ⟨Nat.le_of_ble_eq_true rfl, Nat.le_of_ble_eq_true rfl⟩ (by decide) (cz3 rfl) rfl rfl (As := [.ref (G.2.1 1)]) (rest := []) rfl (Nat.le_of_ble_eq_true rfl) ⟨Nat.le_of_ble_eq_true rfl, Nat.le_of_ble_eq_true rfl⟩ dX5_leads_51 (fun r51 σ51 H locs hq_51 hR hS => ?_)
      obtain ⟨rfl, rfl⟩ := hq_51
      refine lv_pop hx hb dX5_leads_54 rfl ?_
      refine lv_aload_n hx hb dX5_leads_55 rfl (lv_at hl 0 rfl) ?_
      obtain ⟨r56_, σ56_, hc_56, hf⟩ := bd_some hf
      refine x_cvI C hl.1 hR hS (c_X5_readingsFit l G σ51 _ hc_56) gX5_leads_X5_readingsFit rfl hdV_X5_readingsFit ⟨Nat.le_of_ble_eq_true rfl, Nat.le_of_ble_eq_true rfl⟩ (by decide) (cz4 rfl) rfl rfl (As := []) (rest := []) rfl (Nat.le_of_ble_eq_true rfl) ⟨Nat.le_of_ble_eq_true rfl, Nat.le_of_ble_eq_true rfl⟩ dX5_leads_56 (fun r56 σ56 H locs hq_56 hR hS => ?_)
      obtain ⟨rfl, rfl⟩ := hq_56
      refine lv_if_eq (tgt := 71) hx hb dX5_leads_59 (by decide) (fun c_59 => ?_) (fun c_59 => ?_)
      · replace hf := (if_pos c_59).symm.trans hf
        exact w_X5_leads_71 C hrc20 x1 x2 x3 x4 x5 _ hf _ _ _ hR hS (lv_sub hl [0, 1, 2, 3, 4, 5] rfl)
      · replace hf := (if_neg c_59).symm.trans hf
        refine lv_iload hx hb dX5_leads_62 (lv_at hl 4 rfl) ?_
        refine lv_iconst (v := 1) hx hb dX5_leads_64 (by decide) ?_
        refine lv_iload hx hb dX5_leads_65 (lv_at hl 5 rfl) ?_
        refine lv_ishl hx hb dX5_leads_67 ?_
        refine lv_ior hx hb dX5_leads_68 ?_
        refine lv_istore (lv' := [(4, .int (x4 ||| (1 <<< (x5 &&& 31)))), (0, .ref (G.2.1 0)), (1, .int x1), (2, .int x2), (3, .int x3), (5, .int x5)]) hx hb dX5_leads_69 hl (by decide) rfl (fun ls hl => ?_)
        exact w_X5_leads_71 C hrc20 x1 x2 x3 (x4 ||| (1 <<< (x5 &&& 31))) x5 _ hf _ _ _ hR hS (lv_sub hl [1, 2, 3, 4, 0, 5] rfl)
set_option maxHeartbeats 4000000 in
set_option maxRecDepth 100000 in
theorem c_X5_leads (l : Launch) (G : GG) (x1 : Int32) (x2 : Int32) (x3 : Int32) (σ : St) (res : Int32 × St) (hf : f_X5_leads x1 x2 x3 σ = some res) : CI l yX5_leads wsX5_leads 3 [.ref (G.2.1 0), .int x1, .int x2, .int x3] G σ (fun r u => r = res.1 ∧ u = res.2) := by
  refine x_ent (ret := (some .int)) cX5_leads 6 (by decide) rfl (Nat.le_of_ble_eq_true rfl) ?_
  intro p e s m below meth c ls C hR hS hl
  have C : Cx p s m [.ref (G.2.1 0), .int x1, .int x2, .int x3].toArray meth c cX5_leads RX5 wsX5_leads (some .int) 6 G := C
  have hx := C.1
  have hb := C.2.1
  have hl : lv_has ls 6 [(0, .ref (G.2.1 0)), (1, .int x1), (2, .int x2), (3, .int x3)] := hl
  have inX5 : ∀ w ∈ u_ws RX5 TX5 13, w ∈ wsX5_leads := fun w h => List.mem_cons_of_mem _ (List.mem_append_left _ (List.mem_append_left _ (List.mem_append_left _ (List.mem_append_right _ h))))
  unfold f_X5_leads at hf
  refine lv_iload_n hx hb dX5_leads_0 rfl (lv_at hl 1 rfl) ?_
  refine lv_iload_n hx hb dX5_leads_1 rfl (lv_at hl 2 rfl) ?_
  refine lv_iload_n hx hb dX5_leads_2 rfl (lv_at hl 3 rfl) ?_
  obtain ⟨r3_, σ3_, hc_3, hf⟩ := bd_some hf
  refine x_csI C hl.1 hR hS (c_X5_isLedRun l G x1 x2 x3 σ _ hc_3) gX5_leads_X5_isLedRun rfl hdS_X5_isLedRun ⟨Nat.le_of_ble_eq_true rfl, Nat.le_of_ble_eq_true rfl⟩ rfl (As := [.int x1, .int x2, .int x3]) (rest := []) rfl (Nat.le_of_ble_eq_true rfl) ⟨Nat.le_of_ble_eq_true rfl, Nat.le_of_ble_eq_true rfl⟩ dX5_leads_3 (fun r3 σ3 H locs hq_3 hR hS => ?_)
  obtain ⟨rfl, rfl⟩ := hq_3
  refine lv_if_ne (tgt := 14) hx hb dX5_leads_6 (by decide) (fun c_6 => ?_) (fun c_6 => ?_)
  · replace hf := (if_neg c_6).symm.trans hf
    refine lv_iconst (v := 0) hx hb dX5_leads_14 (by decide) ?_
    refine lv_istore (lv' := [(4, .int 0), (0, .ref (G.2.1 0)), (1, .int x1), (2, .int x2), (3, .int x3)]) hx hb dX5_leads_15 hl (by decide) rfl (fun ls hl => ?_)
    refine lv_iconst (v := 1) hx hb dX5_leads_17 (by decide) ?_
    refine lv_istore (lv' := [(5, .int 1), (4, .int 0), (0, .ref (G.2.1 0)), (1, .int x1), (2, .int x2), (3, .int x3)]) hx hb dX5_leads_18 hl (by decide) rfl (fun ls hl => ?_)
    exact w_X5_leads_20 C  FU x1 x2 x3 0 1 _ hf _ _ _ hR hS (lv_sub hl [2, 3, 4, 5, 1, 0] rfl)
  · replace hf := (if_pos c_6).symm.trans hf
    refine lv_aload_n hx hb dX5_leads_9 rfl (lv_at hl 0 rfl) ?_
    obtain ⟨r10_, σ10_, hc_10, hf⟩ := bd_some hf
    refine x_cvI C hl.1 hR hS (c_X5_refusedBad l G σ3 _ hc_10) gX5_leads_X5_refusedBad rfl hdV_X5_refusedBad ⟨Nat.le_of_ble_eq_true rfl, Nat.le_of_ble_eq_true rfl⟩ (by decide) (cz4 rfl) rfl rfl (As := []) (rest := []) rfl (Nat.le_of_ble_eq_true rfl) ⟨Nat.le_of_ble_eq_true rfl, Nat.le_of_ble_eq_true rfl⟩ dX5_leads_10 (fun r10 σ10 H locs hq_10 hR hS => ?_)
    obtain ⟨rfl, rfl⟩ := hq_10
    obtain rfl := Option.some.inj hf
    exact x_iret C hR hS dX5_leads_13 ⟨rfl, rfl⟩
theorem hdS_X5_commonDivisor : yX5_commonDivisor.cls ≠ "java/lang/invoke/MethodHandle" ∧ yX5_commonDivisor.cls ≠ "java/lang/invoke/VarHandle" ∧ (parseMethodDescriptor yX5_commonDivisor.desc).map (fun d => d.parameters.length) = some 2 := by decide +kernel
def f_X5_commonDivisor_9 : Nat → Int64 → Int64 → Int32 → St → Option (Int64 × St)
  | 0, _, _, _, _ => none
  | n + 1, x4, x6, x8, σ => (if 100 ≤ x8 then some (x4, σ) else (if (lg_cmp x6 0) = 0 then some (x4, σ) else gd (x6 = 0) ((f_X5_commonDivisor_9 n) x6 (x4 - x4 / x6 * x6) (x8 + 1) σ)))
def f_X5_commonDivisor (x0 : Int64) (x2 : Int64) (σ : St) : Option (Int64 × St) :=
  f_X5_commonDivisor_9 FU x0 x2 0 σ
set_option maxHeartbeats 4000000 in
set_option maxRecDepth 100000 in
theorem w_X5_commonDivisor_9 {p : Program} {l : Launch} {e : Env} {s : State} {m : MethodId} {args : Array Value} {below : List Frame} {meth : Method} {c : Code} {G : GG} (C : Cx p s m args meth c cX5_commonDivisor RX5 wsX5_commonDivisor (some .long) 11 G) {res : Int64 × St} : ∀ (n : Nat) (x4 : Int64) (x6 : Int64) (x8 : Int32) (σ : St), f_X5_commonDivisor_9 n x4 x6 x8 σ = some res → WC p l e 0 s m args below meth c G (QL G res) 11 9 [(4, .long x4), (6, .long x6), (8, .int x8)] [] σ := by
  have hx := C.1
  have hb := C.2.1
  intro n
  induction n with
  | zero => intro x4 x6 x8 σ hf; cases hf
  | succ n hrc9 =>
    intro x4 x6 x8 σ hf _ _ _ hR hS hl
    unfold f_X5_commonDivisor_9 at hf
    refine lv_iload hx hb dX5_commonDivisor_9 (lv_at hl 2 rfl) ?_
    refine lv_bipush (v := 100) hx hb dX5_commonDivisor_11 (by decide) ?_
    refine lv_icmp_ge (tgt := 44) hx hb dX5_commonDivisor_13 (by decide) (fun c_13 => ?_) (fun c_13 => ?_)
    · replace hf := (if_pos c_13).symm.trans hf
      refine lv_lload hx hb dX5_commonDivisor_44 (lv_at hl 0 rfl) ?_
      obtain rfl := Option.some.inj hf
      exact x_lret C hR hS dX5_commonDivisor_46 ⟨rfl, rfl⟩
    · replace hf := (if_neg c_13).symm.trans hf
      refine lv_lload hx hb dX5_commonDivisor_16 (lv_at hl 1 rfl) ?_
      refine lv_lconst (v := 0) hx hb dX5_commonDivisor_18 (by decide) ?_
      refine W.lcmp hx hb dX5_commonDivisor_19 ?_
      refine lv_if_eq (tgt := 44) hx hb dX5_commonDivisor_20 (by decide) (fun c_20 => ?_) (fun c_20 => ?_)
      · replace hf := (if_pos c_20).symm.trans hf
        refine lv_lload hx hb dX5_commonDivisor_44 (lv_at hl 0 rfl) ?_
        obtain rfl := Option.some.inj hf
        exact x_lret C hR hS dX5_commonDivisor_46 ⟨rfl, rfl⟩
      · replace hf := (if_neg c_20).symm.trans hf
        refine lv_lload hx hb dX5_commonDivisor_23 (lv_at hl 0 rfl) ?_
        refine lv_lload hx hb dX5_commonDivisor_25 (lv_at hl 1 rfl) ?_
        obtain ⟨z_27, hf⟩ := gd_some hf
        refine lv_lrem hx hb dX5_commonDivisor_27 z_27 ?_
        refine lv_lstore (lv' := [(9, .long (x4 - x4 / x6 * x6)), (4, .long x4), (6, .long x6), (8, .int x8)]) hx hb dX5_commonDivisor_28 hl (by decide) rfl (fun ls hl => ?_)
        refine lv_lload hx hb dX5_commonDivisor_30 (lv_at hl 2 rfl) ?_
        refine lv_lstore (lv' := [(4, .long x6), (9, .long (x4 - x4 / x6 * x6)), (6, .long x6), (8, .int x8)]) hx hb dX5_commonDivisor_32 hl (by decide) rfl (fun ls hl => ?_)
        refine lv_lload hx hb dX5_commonDivisor_34 (lv_at hl 1 rfl) ?_
        refine lv_lstore (lv' := [(6, .long (x4 - x4 / x6 * x6)), (4, .long x6), (9, .long (x4 - x4 / x6 * x6)), (8, .int x8)]) hx hb dX5_commonDivisor_36 hl (by decide) rfl (fun ls hl => ?_)
        refine lv_iinc (v := x8 + 1) (lv' := [(8, .int (x8 + 1)), (6, .long (x4 - x4 / x6 * x6)), (4, .long x6), (9, .long (x4 - x4 / x6 * x6))]) hx hb dX5_commonDivisor_38 hl (k := 3) rfl rfl (by decide) rfl (fun ls hl => ?_)
        refine lv_goto (tgt := 9) hx hb dX5_commonDivisor_41 (by decide) ?_
        exact hrc9 x6 (x4 - x4 / x6 * x6) (x8 + 1) _ hf _ _ _ hR hS (lv_sub hl [2, 1, 0] rfl)
set_option maxHeartbeats 4000000 in
set_option maxRecDepth 100000 in
theorem c_X5_commonDivisor (l : Launch) (G : GG) (x0 : Int64) (x2 : Int64) (σ : St) (res : Int64 × St) (hf : f_X5_commonDivisor x0 x2 σ = some res) : CL l yX5_commonDivisor wsX5_commonDivisor 0 [.long x0, .long x2] G σ (fun r u => r = res.1 ∧ u = res.2) := by
  refine x_ent (ret := (some .long)) cX5_commonDivisor 11 (by decide) rfl (Nat.le_of_ble_eq_true rfl) ?_
  intro p e s m below meth c ls C hR hS hl
  have C : Cx p s m [.long x0, .long x2].toArray meth c cX5_commonDivisor RX5 wsX5_commonDivisor (some .long) 11 G := C
  have hx := C.1
  have hb := C.2.1
  have hl : lv_has ls 11 [(0, .long x0), (2, .long x2)] := hl
  unfold f_X5_commonDivisor at hf
  refine lv_lload_n hx hb dX5_commonDivisor_0 rfl (lv_at hl 0 rfl) ?_
  refine lv_lstore (lv' := [(4, .long x0), (0, .long x0), (2, .long x2)]) hx hb dX5_commonDivisor_1 hl (by decide) rfl (fun ls hl => ?_)
  refine lv_lload_n hx hb dX5_commonDivisor_3 rfl (lv_at hl 2 rfl) ?_
  refine lv_lstore (lv' := [(6, .long x2), (4, .long x0), (0, .long x0), (2, .long x2)]) hx hb dX5_commonDivisor_4 hl (by decide) rfl (fun ls hl => ?_)
  refine lv_iconst (v := 0) hx hb dX5_commonDivisor_6 (by decide) ?_
  refine lv_istore (lv' := [(8, .int 0), (6, .long x2), (4, .long x0), (0, .long x0), (2, .long x2)]) hx hb dX5_commonDivisor_7 hl (by decide) rfl (fun ls hl => ?_)
  exact w_X5_commonDivisor_9 C  FU x0 x2 0 _ hf _ _ _ hR hS (lv_sub hl [2, 1, 0] rfl)
theorem hdV_X5_setFraction : yX5_setFraction.cls = RX5 ∧ yX5_setFraction.cls ≠ "java/lang/invoke/MethodHandle" ∧ yX5_setFraction.cls ≠ "java/lang/invoke/VarHandle" ∧ (parseMethodDescriptor yX5_setFraction.desc).map (fun d => d.parameters.length) = some 2 := by decide +kernel
def f_X5_setFraction (x1 : Int64) (x3 : Int64) (σ : St) : Option (St) :=
  bd (f_X5_commonDivisor x1 x3 σ) (fun r2 σ2 => (if (lg_cmp r2 0) ≤ 0 then some σ2 else gd (r2 = 0) (gd (r2 = 0) (some (pL (pL σ2 0 8 (x1 / r2)) 0 9 (x3 / r2))))))
set_option maxHeartbeats 4000000 in
set_option maxRecDepth 100000 in
theorem c_X5_setFraction (l : Launch) (G : GG) (x1 : Int64) (x3 : Int64) (σ : St) (res : St) (hf : f_X5_setFraction x1 x3 σ = some res) : CV l yX5_setFraction wsX5_setFraction 1 [.ref (G.2.1 0), .long x1, .long x3] G σ (fun u => u = res) := by
  refine x_ent (ret := none) cX5_setFraction 7 (by decide) rfl (Nat.le_of_ble_eq_true rfl) ?_
  intro p e s m below meth c ls C hR hS hl
  have C : Cx p s m [.ref (G.2.1 0), .long x1, .long x3].toArray meth c cX5_setFraction RX5 wsX5_setFraction none 7 G := C
  have hx := C.1
  have hb := C.2.1
  have hl : lv_has ls 7 [(0, .ref (G.2.1 0)), (1, .long x1), (3, .long x3)] := hl
  have inX5 : ∀ w ∈ u_ws RX5 TX5 13, w ∈ wsX5_setFraction := fun w h => List.mem_cons_of_mem _ (List.mem_append_right _ h)
  unfold f_X5_setFraction at hf
  refine lv_lload_n hx hb dX5_setFraction_0 rfl (lv_at hl 1 rfl) ?_
  refine lv_lload_n hx hb dX5_setFraction_1 rfl (lv_at hl 2 rfl) ?_
  obtain ⟨r2_, σ2_, hc_2, hf⟩ := bd_some hf
  refine x_csL C hl.1 hR hS (c_X5_commonDivisor l G x1 x3 σ _ hc_2) gX5_setFraction_X5_commonDivisor rfl hdS_X5_commonDivisor ⟨Nat.le_of_ble_eq_true rfl, Nat.le_of_ble_eq_true rfl⟩ rfl (As := [.long x1, .long x3]) (rest := []) rfl (Nat.le_of_ble_eq_true rfl) ⟨Nat.le_of_ble_eq_true rfl, Nat.le_of_ble_eq_true rfl⟩ dX5_setFraction_2 (fun r2 σ2 H locs hq_2 hR hS => ?_)
  obtain ⟨rfl, rfl⟩ := hq_2
  refine lv_lstore (lv' := [(5, .long r2), (0, .ref (G.2.1 0)), (1, .long x1), (3, .long x3)]) hx hb dX5_setFraction_5 hl (by decide) rfl (fun ls hl => ?_)
  refine lv_lload hx hb dX5_setFraction_7 (lv_at hl 0 rfl) ?_
  refine lv_lconst (v := 0) hx hb dX5_setFraction_9 (by decide) ?_
  refine W.lcmp hx hb dX5_setFraction_10 ?_
  refine lv_if_le (tgt := 30) hx hb dX5_setFraction_11 (by decide) (fun c_11 => ?_) (fun c_11 => ?_)
  · replace hf := (if_pos c_11).symm.trans hf
    obtain rfl := Option.some.inj hf
    exact x_vret C hR hS dX5_setFraction_30 rfl
  · replace hf := (if_neg c_11).symm.trans hf
    refine lv_aload_n hx hb dX5_setFraction_14 rfl (lv_at hl 1 rfl) ?_
    refine lv_lload_n hx hb dX5_setFraction_15 rfl (lv_at hl 2 rfl) ?_
    refine lv_lload hx hb dX5_setFraction_16 (lv_at hl 0 rfl) ?_
    obtain ⟨z_18, hf⟩ := gd_some hf
    refine lv_ldiv hx hb dX5_setFraction_18 z_18 ?_
    refine x_put (τ := (pL σ2 0 8 (x1 / r2))) C hR hS inX5 tyX5 tyX5_ok nmX5 0 (by decide) (cz4 rfl) rfl 8 (by decide) (pfL4_8 rfl) pL_o 1 rfl rfl rfl rfl (Nat.le_of_ble_eq_true rfl) dX5_setFraction_19 (fun H locs hR hS => ?_)
    refine lv_aload_n hx hb dX5_setFraction_22 rfl (lv_at hl 1 rfl) ?_
    refine lv_lload_n hx hb dX5_setFraction_23 rfl (lv_at hl 3 rfl) ?_
    refine lv_lload hx hb dX5_setFraction_24 (lv_at hl 0 rfl) ?_
    obtain ⟨z_26, hf⟩ := gd_some hf
    refine lv_ldiv hx hb dX5_setFraction_26 z_26 ?_
    refine x_put (τ := (pL (pL σ2 0 8 (x1 / r2)) 0 9 (x3 / r2))) C hR hS inX5 tyX5 tyX5_ok nmX5 0 (by decide) (cz4 rfl) rfl 9 (by decide) (pfL4_9 rfl) pL_o 2 rfl rfl rfl rfl (Nat.le_of_ble_eq_true rfl) dX5_setFraction_27 (fun H locs hR hS => ?_)
    obtain rfl := Option.some.inj hf
    exact x_vret C hR hS dX5_setFraction_30 rfl
theorem hdV_X5_drawn : yX5_drawn.cls = RX5 ∧ yX5_drawn.cls ≠ "java/lang/invoke/MethodHandle" ∧ yX5_drawn.cls ≠ "java/lang/invoke/VarHandle" ∧ (parseMethodDescriptor yX5_drawn.desc).map (fun d => d.parameters.length) = some 4 := by decide +kernel
def f_X5_drawn_83 (rc71 : Int32 → Int64 → Int64 → Int32 → St → Option (Int32 × St)) : Nat → Int32 → Int64 → Int64 → Int32 → Int32 → Int32 → St → Option (Int32 × St)
  | 0, _, _, _, _, _, _, _ => none
  | n + 1, x2, x5, x7, x9, x10, x11, σ => (if (sI σ 1 0) ≤ x11 then bd (f_X4_go (pI σ 61 5 x10)) (fun r155 σ155 => rc71 x2 x5 (x7 + r155.toInt64) (x9 + 1) σ155) else (f_X5_drawn_83 rc71 n) x2 (((x5 * 1103515245) + 12345) - ((x5 * 1103515245) + 12345) / 2147483648 * 2147483648) x7 x9 (x10 ||| (((((((x5 * 1103515245) + 12345) - ((x5 * 1103515245) + 12345) / 2147483648 * 2147483648) / 65536) - ((((x5 * 1103515245) + 12345) - ((x5 * 1103515245) + 12345) / 2147483648 * 2147483648) / 65536) / 2 * 2).toInt32) <<< (x11 &&& 31))) (x11 + 1) σ)
def f_X5_drawn_71 : Nat → Int32 → Int64 → Int64 → Int32 → St → Option (Int32 × St)
  | 0, _, _, _, _, _ => none
  | n + 1, x2, x5, x7, x9, σ => (if x2 ≤ x9 then bv (f_X5_setFraction x7 x2.toInt64 σ) (fun σ173 => some (1, σ173)) else f_X5_drawn_83 (f_X5_drawn_71 n) FU x2 x5 x7 x9 0 0 σ)
def f_X5_drawn (x1 : Int32) (x2 : Int32) (x3 : Int32) (x4 : Int32) (σ : St) : Option (Int32 × St) :=
  bd (f_X5_within x1 0 999999 σ) (fun r4 σ4 => (if r4 = 0 then bd (f_X5_refusedBad σ4) (fun r32 σ32 => some (r32, σ32)) else bd (f_X5_within x2 0 30 σ4) (fun r14 σ14 => (if r14 = 0 then bd (f_X5_refusedBad σ14) (fun r32 σ32 => some (r32, σ32)) else bd (f_X5_isRun 0 x3 x4 0 σ14) (fun r25 σ25 => (if r25 = 0 then bd (f_X5_refusedBad σ25) (fun r32 σ32 => some (r32, σ32)) else (if x2 = 0 then bd (f_X5_refusedNo σ25) (fun r41 σ41 => some (r41, σ41)) else bv (f_X4_tell 0 x3 x4 0 σ25) (fun σ58 => f_X5_drawn_71 FU x2 x1.toInt64 0 0 σ58))))))))
set_option maxHeartbeats 4000000 in
set_option maxRecDepth 100000 in
theorem w_X5_drawn_83 {p : Program} {l : Launch} {e : Env} {s : State} {m : MethodId} {args : Array Value} {below : List Frame} {meth : Method} {c : Code} {G : GG} (C : Cx p s m args meth c cX5_drawn RX5 wsX5_drawn (some .int) 12 G) {res : Int32 × St} {rc71 : Int32 → Int64 → Int64 → Int32 → St → Option (Int32 × St)} (hrc71 : ∀ (x2 : Int32) (x5 : Int64) (x7 : Int64) (x9 : Int32) (σ : St), rc71 x2 x5 x7 x9 σ = some res → WC p l e 3 s m args below meth c G (QI G res) 12 71 [(0, .ref (G.2.1 0)), (2, .int x2), (5, .long x5), (7, .long x7), (9, .int x9)] [] σ) : ∀ (n : Nat) (x2 : Int32) (x5 : Int64) (x7 : Int64) (x9 : Int32) (x10 : Int32) (x11 : Int32) (σ : St), f_X5_drawn_83 rc71 n x2 x5 x7 x9 x10 x11 σ = some res → WC p l e 3 s m args below meth c G (QI G res) 12 83 [(0, .ref (G.2.1 0)), (2, .int x2), (5, .long x5), (7, .long x7), (9, .int x9), (10, .int x10), (11, .int x11)] [] σ := by
  have hx := C.1
  have hb := C.2.1
  have inX5 : ∀ w ∈ u_ws RX5 TX5 13, w ∈ wsX5_drawn := fun w h => List.mem_cons_of_mem _ (List.mem_append_left _ (List.mem_append_left _ (List.mem_append_left _ (List.mem_append_right _ h))))
  have inX0 : ∀ w ∈ u_ws RX0 TX0 14, w ∈ wsX5_drawn := fun w h => List.mem_cons_of_mem _ (List.mem_append_left _ (List.mem_append_left _ (List.mem_append_right _ h)))
  have inX4 : ∀ w ∈ u_ws RX4 TX4 14, w ∈ wsX5_drawn := fun w h => List.mem_cons_of_mem _ (List.mem_append_left _ (List.mem_append_right _ h))
  intro n
  induction n with
  | zero => intro x2 x5 x7 x9 x10 x11 σ hf; cases hf
  | succ n hrc83 =>
    intro x2 x5 x7 x9 x10 x11 σ hf _ _ _ hR hS hl
    unfold f_X5_drawn_83 at hf
    refine lv_iload hx hb dX5_drawn_83 (lv_at hl 6 rfl) ?_
    refine lv_aload_n hx hb dX5_drawn_85 rfl (lv_at hl 0 rfl) ?_
    refine x_get C hR inX5 0 (by decide) (cz4 rfl) rfl 0 (by decide) 3 rfl (.ref (G.2.1 1)) rfl dX5_drawn_86 ?_
    refine x_get C hR inX0 1 (by decide) (cz0 rfl) rfl 0 (by decide) 4 rfl (.int (sI σ 1 0)) rfl dX5_drawn_89 ?_
    refine lv_icmp_ge (tgt := 136) hx hb dX5_drawn_92 (by decide) (fun c_92 => ?_) (fun c_92 => ?_)
    · replace hf := (if_pos c_92).symm.trans hf
      refine lv_aload_n hx hb dX5_drawn_136 rfl (lv_at hl 0 rfl) ?_
      refine x_get C hR inX5 0 (by decide) (cz4 rfl) rfl 4 (by decide) 2 rfl (.ref (G.2.1 61)) rfl dX5_drawn_137 ?_
      refine lv_iload hx hb dX5_drawn_140 (lv_at hl 5 rfl) ?_
      refine x_put (τ := (pI σ 61 5 x10)) C hR hS inX4 tyX4 tyX4_ok nmX4 61 (by decide) (cz3 rfl) rfl 5 (by decide) (pfI3_5 rfl) pI_o 10 rfl rfl rfl rfl (Nat.le_of_ble_eq_true rfl) dX5_drawn_142 (fun H locs hR hS => ?_)
      refine lv_lload hx hb dX5_drawn_145 (lv_at hl 3 rfl) ?_
      refine lv_aload_n hx hb dX5_drawn_147 rfl (lv_at hl 0 rfl) ?_
      refine x_get C hR inX5 0 (by decide) (cz4 rfl) rfl 4 (by decide) 2 rfl (.ref (G.2.1 61)) rfl dX5_drawn_148 ?_
      refine lv_aload_n hx hb dX5_drawn_151 rfl (lv_at hl 0 rfl) ?_
      refine x_get C hR inX5 0 (by decide) (cz4 rfl) rfl 0 (by decide) 3 rfl (.ref (G.2.1 1)) rfl dX5_drawn_152 ?_
      obtain ⟨r155_, σ155_, hc_155, hf⟩ := bd_some hf
      refine x_cvI C hl.1 hR hS (c_X4_go l G (pI σ 61 5 x10) _ hc_155) gX5_drawn_X4_go rfl hdV_X4_go ⟨Nat.le_of_ble_eq_true rfl, Nat.le_of_ble_eq_true rfl⟩ (by decide) (cz3 rfl) rfl rfl (As := [.ref (G.2.1 1)]) (rest := [.long x7]) rfl (Nat.le_of_ble_eq_true rfl) ⟨Nat.le_of_ble_eq_true rfl, Nat.le_of_ble_eq_true rfl⟩ dX5_drawn_155 (fun r155 σ155 H locs hq_155 hR hS => ?_)
      obtain ⟨rfl, rfl⟩ := hq_155
      refine lv_i2l (v := r155.toInt64) hx hb dX5_drawn_158 rfl ?_
      refine lv_ladd hx hb dX5_drawn_159 ?_
      refine lv_lstore (lv' := [(7, .long (x7 + r155.toInt64)), (0, .ref (G.2.1 0)), (2, .int x2), (5, .long x5), (9, .int x9), (10, .int x10), (11, .int x11)]) hx hb dX5_drawn_160 hl (by decide) rfl (fun ls hl => ?_)
      refine lv_iinc (v := x9 + 1) (lv' := [(9, .int (x9 + 1)), (7, .long (x7 + r155.toInt64)), (0, .ref (G.2.1 0)), (2, .int x2), (5, .long x5), (10, .int x10), (11, .int x11)]) hx hb dX5_drawn_162 hl (k := 4) rfl rfl (by decide) rfl (fun ls hl => ?_)
      refine lv_goto (tgt := 71) hx hb dX5_drawn_165 (by decide) ?_
      exact hrc71 x2 x5 (x7 + r155.toInt64) (x9 + 1) _ hf _ _ _ hR hS (lv_sub hl [2, 3, 4, 1, 0] rfl)
    · replace hf := (if_neg c_92).symm.trans hf
      refine lv_lload hx hb dX5_drawn_95 (lv_at hl 2 rfl) ?_
      refine lv_ldc2 (v := 1103515245) hx hb C.2.2.2.2.1 (C.2.2.2.2.2.1 _ (List.mem_of_getElem? (i := 5) rfl)) dX5_drawn_97 ?_
      refine lv_lmul hx hb dX5_drawn_100 ?_
      refine lv_ldc2 (v := 12345) hx hb C.2.2.2.2.1 (C.2.2.2.2.2.1 _ (List.mem_of_getElem? (i := 6) rfl)) dX5_drawn_101 ?_
      refine lv_ladd hx hb dX5_drawn_104 ?_
      refine lv_ldc2 (v := 2147483648) hx hb C.2.2.2.2.1 (C.2.2.2.2.2.1 _ (List.mem_of_getElem? (i := 7) rfl)) dX5_drawn_105 ?_
      refine lv_lrem hx hb dX5_drawn_108 (by decide) ?_
      refine lv_lstore (lv' := [(5, .long (((x5 * 1103515245) + 12345) - ((x5 * 1103515245) + 12345) / 2147483648 * 2147483648)), (0, .ref (G.2.1 0)), (2, .int x2), (7, .long x7), (9, .int x9), (10, .int x10), (11, .int x11)]) hx hb dX5_drawn_109 hl (by decide) rfl (fun ls hl => ?_)
      refine lv_iload hx hb dX5_drawn_111 (lv_at hl 5 rfl) ?_
      refine lv_lload hx hb dX5_drawn_113 (lv_at hl 0 rfl) ?_
      refine lv_ldc2 (v := 65536) hx hb C.2.2.2.2.1 (C.2.2.2.2.2.1 _ (List.mem_of_getElem? (i := 8) rfl)) dX5_drawn_115 ?_
      refine lv_ldiv hx hb dX5_drawn_118 (by decide) ?_
      refine lv_ldc2 (v := 2) hx hb C.2.2.2.2.1 (C.2.2.2.2.2.1 _ (List.mem_of_getElem? (i := 9) rfl)) dX5_drawn_119 ?_
      refine lv_lrem hx hb dX5_drawn_122 (by decide) ?_
      refine lv_l2i (v := (((((x5 * 1103515245) + 12345) - ((x5 * 1103515245) + 12345) / 2147483648 * 2147483648) / 65536) - ((((x5 * 1103515245) + 12345) - ((x5 * 1103515245) + 12345) / 2147483648 * 2147483648) / 65536) / 2 * 2).toInt32) hx hb dX5_drawn_123 rfl ?_
      refine lv_iload hx hb dX5_drawn_124 (lv_at hl 6 rfl) ?_
      refine lv_ishl hx hb dX5_drawn_126 ?_
      refine lv_ior hx hb dX5_drawn_127 ?_
      refine lv_istore (lv' := [(10, .int (x10 ||| (((((((x5 * 1103515245) + 12345) - ((x5 * 1103515245) + 12345) / 2147483648 * 2147483648) / 65536) - ((((x5 * 1103515245) + 12345) - ((x5 * 1103515245) + 12345) / 2147483648 * 2147483648) / 65536) / 2 * 2).toInt32) <<< (x11 &&& 31)))), (5, .long (((x5 * 1103515245) + 12345) - ((x5 * 1103515245) + 12345) / 2147483648 * 2147483648)), (0, .ref (G.2.1 0)), (2, .int x2), (7, .long x7), (9, .int x9), (11, .int x11)]) hx hb dX5_drawn_128 hl (by decide) rfl (fun ls hl => ?_)
      refine lv_iinc (v := x11 + 1) (lv' := [(11, .int (x11 + 1)), (10, .int (x10 ||| (((((((x5 * 1103515245) + 12345) - ((x5 * 1103515245) + 12345) / 2147483648 * 2147483648) / 65536) - ((((x5 * 1103515245) + 12345) - ((x5 * 1103515245) + 12345) / 2147483648 * 2147483648) / 65536) / 2 * 2).toInt32) <<< (x11 &&& 31)))), (5, .long (((x5 * 1103515245) + 12345) - ((x5 * 1103515245) + 12345) / 2147483648 * 2147483648)), (0, .ref (G.2.1 0)), (2, .int x2), (7, .long x7), (9, .int x9)]) hx hb dX5_drawn_130 hl (k := 6) rfl rfl (by decide) rfl (fun ls hl => ?_)
      refine lv_goto (tgt := 83) hx hb dX5_drawn_133 (by decide) ?_
      exact hrc83 x2 (((x5 * 1103515245) + 12345) - ((x5 * 1103515245) + 12345) / 2147483648 * 2147483648) x7 x9 (x10 ||| (((((((x5 * 1103515245) + 12345) - ((x5 * 1103515245) + 12345) / 2147483648 * 2147483648) / 65536) - ((((x5 * 1103515245) + 12345) - ((x5 * 1103515245) + 12345) / 2147483648 * 2147483648) / 65536) / 2 * 2).toInt32) <<< (x11 &&& 31))) (x11 + 1) _ hf _ _ _ hR hS (lv_sub hl [3, 4, 2, 5, 6, 1, 0] rfl)
set_option maxHeartbeats 4000000 in
set_option maxRecDepth 100000 in
theorem w_X5_drawn_71 {p : Program} {l : Launch} {e : Env} {s : State} {m : MethodId} {args : Array Value} {below : List Frame} {meth : Method} {c : Code} {G : GG} (C : Cx p s m args meth c cX5_drawn RX5 wsX5_drawn (some .int) 12 G) {res : Int32 × St} : ∀ (n : Nat) (x2 : Int32) (x5 : Int64) (x7 : Int64) (x9 : Int32) (σ : St), f_X5_drawn_71 n x2 x5 x7 x9 σ = some res → WC p l e 3 s m args below meth c G (QI G res) 12 71 [(0, .ref (G.2.1 0)), (2, .int x2), (5, .long x5), (7, .long x7), (9, .int x9)] [] σ := by
  have hx := C.1
  have hb := C.2.1
  have inX5 : ∀ w ∈ u_ws RX5 TX5 13, w ∈ wsX5_drawn := fun w h => List.mem_cons_of_mem _ (List.mem_append_left _ (List.mem_append_left _ (List.mem_append_left _ (List.mem_append_right _ h))))
  have inX0 : ∀ w ∈ u_ws RX0 TX0 14, w ∈ wsX5_drawn := fun w h => List.mem_cons_of_mem _ (List.mem_append_left _ (List.mem_append_left _ (List.mem_append_right _ h)))
  have inX4 : ∀ w ∈ u_ws RX4 TX4 14, w ∈ wsX5_drawn := fun w h => List.mem_cons_of_mem _ (List.mem_append_left _ (List.mem_append_right _ h))
  intro n
  induction n with
  | zero => intro x2 x5 x7 x9 σ hf; cases hf
  | succ n hrc71 =>
    intro x2 x5 x7 x9 σ hf _ _ _ hR hS hl
    unfold f_X5_drawn_71 at hf
    refine lv_iload hx hb dX5_drawn_71 (lv_at hl 4 rfl) ?_
    refine lv_iload_n hx hb dX5_drawn_73 rfl (lv_at hl 1 rfl) ?_
    refine lv_icmp_ge (tgt := 168) hx hb dX5_drawn_74 (by decide) (fun c_74 => ?_) (fun c_74 => ?_)
    · replace hf := (if_pos c_74).symm.trans hf
      refine lv_aload_n hx hb dX5_drawn_168 rfl (lv_at hl 0 rfl) ?_
      refine lv_lload hx hb dX5_drawn_169 (lv_at hl 3 rfl) ?_
      refine lv_iload_n hx hb dX5_drawn_171 rfl (lv_at hl 1 rfl) ?_
      refine lv_i2l (v := x2.toInt64) hx hb dX5_drawn_172 rfl ?_
      obtain ⟨σ173_, hc_173, hf⟩ := bv_some hf
      refine x_cvV C hl.1 hR hS (c_X5_setFraction l G x7 x2.toInt64 σ _ hc_173) gX5_drawn_X5_setFraction rfl hdV_X5_setFraction ⟨Nat.le_of_ble_eq_true rfl, Nat.le_of_ble_eq_true rfl⟩ (by decide) (cz4 rfl) rfl rfl (As := [.long x7, .long x2.toInt64]) (rest := []) rfl (Nat.le_of_ble_eq_true rfl) ⟨Nat.le_of_ble_eq_true rfl, Nat.le_of_ble_eq_true rfl⟩ dX5_drawn_173 (fun σ173 H locs hq_173 hR hS => ?_)
      subst hq_173
      refine lv_iconst (v := 1) hx hb dX5_drawn_176 (by decide) ?_
      obtain rfl := Option.some.inj hf
      exact x_iret C hR hS dX5_drawn_177 ⟨rfl, rfl⟩
    · replace hf := (if_neg c_74).symm.trans hf
      refine lv_iconst (v := 0) hx hb dX5_drawn_77 (by decide) ?_
      refine lv_istore (lv' := [(10, .int 0), (0, .ref (G.2.1 0)), (2, .int x2), (5, .long x5), (7, .long x7), (9, .int x9)]) hx hb dX5_drawn_78 hl (by decide) rfl (fun ls hl => ?_)
      refine lv_iconst (v := 0) hx hb dX5_drawn_80 (by decide) ?_
      refine lv_istore (lv' := [(11, .int 0), (10, .int 0), (0, .ref (G.2.1 0)), (2, .int x2), (5, .long x5), (7, .long x7), (9, .int x9)]) hx hb dX5_drawn_81 hl (by decide) rfl (fun ls hl => ?_)
      exact w_X5_drawn_83 C hrc71 FU x2 x5 x7 x9 0 0 _ hf _ _ _ hR hS (lv_sub hl [2, 3, 4, 5, 6, 1, 0] rfl)
set_option maxHeartbeats 4000000 in
set_option maxRecDepth 100000 in
theorem c_X5_drawn (l : Launch) (G : GG) (x1 : Int32) (x2 : Int32) (x3 : Int32) (x4 : Int32) (σ : St) (res : Int32 × St) (hf : f_X5_drawn x1 x2 x3 x4 σ = some res) : CI l yX5_drawn wsX5_drawn 3 [.ref (G.2.1 0), .int x1, .int x2, .int x3, .int x4] G σ (fun r u => r = res.1 ∧ u = res.2) := by
  refine x_ent (ret := (some .int)) cX5_drawn 12 (by decide) rfl (Nat.le_of_ble_eq_true rfl) ?_
  intro p e s m below meth c ls C hR hS hl
  have C : Cx p s m [.ref (G.2.1 0), .int x1, .int x2, .int x3, .int x4].toArray meth c cX5_drawn RX5 wsX5_drawn (some .int) 12 G := C
  have hx := C.1
  have hb := C.2.1
  have hl : lv_has ls 12 [(0, .ref (G.2.1 0)), (1, .int x1), (2, .int x2), (3, .int x3), (4, .int x4)] := hl
  have inX5 : ∀ w ∈ u_ws RX5 TX5 13, w ∈ wsX5_drawn := fun w h => List.mem_cons_of_mem _ (List.mem_append_left _ (List.mem_append_left _ (List.mem_append_left _ (List.mem_append_right _ h))))
  have inX0 : ∀ w ∈ u_ws RX0 TX0 14, w ∈ wsX5_drawn := fun w h => List.mem_cons_of_mem _ (List.mem_append_left _ (List.mem_append_left _ (List.mem_append_right _ h)))
  have inX4 : ∀ w ∈ u_ws RX4 TX4 14, w ∈ wsX5_drawn := fun w h => List.mem_cons_of_mem _ (List.mem_append_left _ (List.mem_append_right _ h))
  unfold f_X5_drawn at hf
  refine lv_iload_n hx hb dX5_drawn_0 rfl (lv_at hl 1 rfl) ?_
  refine lv_iconst (v := 0) hx hb dX5_drawn_1 (by decide) ?_
  refine lv_ldc (v := 999999) hx hb C.2.2.2.2.1 (C.2.2.2.2.2.1 _ (List.mem_of_getElem? (i := 1) rfl)) dX5_drawn_2 ?_
  obtain ⟨r4_, σ4_, hc_4, hf⟩ := bd_some hf
  refine x_csI C hl.1 hR hS (c_X5_within l G x1 0 999999 σ _ hc_4) gX5_drawn_X5_within rfl hdS_X5_within ⟨Nat.le_of_ble_eq_true rfl, Nat.le_of_ble_eq_true rfl⟩ rfl (As := [.int x1, .int 0, .int 999999]) (rest := []) rfl (Nat.le_of_ble_eq_true rfl) ⟨Nat.le_of_ble_eq_true rfl, Nat.le_of_ble_eq_true rfl⟩ dX5_drawn_4 (fun r4 σ4 H locs hq_4 hR hS => ?_)
  obtain ⟨rfl, rfl⟩ := hq_4
  refine lv_if_eq (tgt := 31) hx hb dX5_drawn_7 (by decide) (fun c_7 => ?_) (fun c_7 => ?_)
  · replace hf := (if_pos c_7).symm.trans hf
    refine lv_aload_n hx hb dX5_drawn_31 rfl (lv_at hl 0 rfl) ?_
    obtain ⟨r32_, σ32_, hc_32, hf⟩ := bd_some hf
    refine x_cvI C hl.1 hR hS (c_X5_refusedBad l G σ4 _ hc_32) gX5_drawn_X5_refusedBad rfl hdV_X5_refusedBad ⟨Nat.le_of_ble_eq_true rfl, Nat.le_of_ble_eq_true rfl⟩ (by decide) (cz4 rfl) rfl rfl (As := []) (rest := []) rfl (Nat.le_of_ble_eq_true rfl) ⟨Nat.le_of_ble_eq_true rfl, Nat.le_of_ble_eq_true rfl⟩ dX5_drawn_32 (fun r32 σ32 H locs hq_32 hR hS => ?_)
    obtain ⟨rfl, rfl⟩ := hq_32
    obtain rfl := Option.some.inj hf
    exact x_iret C hR hS dX5_drawn_35 ⟨rfl, rfl⟩
  · replace hf := (if_neg c_7).symm.trans hf
    refine lv_iload_n hx hb dX5_drawn_10 rfl (lv_at hl 2 rfl) ?_
    refine lv_iconst (v := 0) hx hb dX5_drawn_11 (by decide) ?_
    refine lv_bipush (v := 30) hx hb dX5_drawn_12 (by decide) ?_
    obtain ⟨r14_, σ14_, hc_14, hf⟩ := bd_some hf
    refine x_csI C hl.1 hR hS (c_X5_within l G x2 0 30 σ4 _ hc_14) gX5_drawn_X5_within rfl hdS_X5_within ⟨Nat.le_of_ble_eq_true rfl, Nat.le_of_ble_eq_true rfl⟩ rfl (As := [.int x2, .int 0, .int 30]) (rest := []) rfl (Nat.le_of_ble_eq_true rfl) ⟨Nat.le_of_ble_eq_true rfl, Nat.le_of_ble_eq_true rfl⟩ dX5_drawn_14 (fun r14 σ14 H locs hq_14 hR hS => ?_)
    obtain ⟨rfl, rfl⟩ := hq_14
    refine lv_if_eq (tgt := 31) hx hb dX5_drawn_17 (by decide) (fun c_17 => ?_) (fun c_17 => ?_)
    · replace hf := (if_pos c_17).symm.trans hf
      refine lv_aload_n hx hb dX5_drawn_31 rfl (lv_at hl 0 rfl) ?_
      obtain ⟨r32_, σ32_, hc_32, hf⟩ := bd_some hf
      refine x_cvI C hl.1 hR hS (c_X5_refusedBad l G σ14 _ hc_32) gX5_drawn_X5_refusedBad rfl hdV_X5_refusedBad ⟨Nat.le_of_ble_eq_true rfl, Nat.le_of_ble_eq_true rfl⟩ (by decide) (cz4 rfl) rfl rfl (As := []) (rest := []) rfl (Nat.le_of_ble_eq_true rfl) ⟨Nat.le_of_ble_eq_true rfl, Nat.le_of_ble_eq_true rfl⟩ dX5_drawn_32 (fun r32 σ32 H locs hq_32 hR hS => ?_)
      obtain ⟨rfl, rfl⟩ := hq_32
      obtain rfl := Option.some.inj hf
      exact x_iret C hR hS dX5_drawn_35 ⟨rfl, rfl⟩
    · replace hf := (if_neg c_17).symm.trans hf
      refine lv_iconst (v := 0) hx hb dX5_drawn_20 (by decide) ?_
      refine lv_iload_n hx hb dX5_drawn_21 rfl (lv_at hl 3 rfl) ?_
      refine lv_iload hx hb dX5_drawn_22 (lv_at hl 4 rfl) ?_
      refine lv_iconst (v := 0) hx hb dX5_drawn_24 (by decide) ?_
      obtain ⟨r25_, σ25_, hc_25, hf⟩ := bd_some hf
      refine x_csI C hl.1 hR hS (c_X5_isRun l G 0 x3 x4 0 σ14 _ hc_25) gX5_drawn_X5_isRun rfl hdS_X5_isRun ⟨Nat.le_of_ble_eq_true rfl, Nat.le_of_ble_eq_true rfl⟩ rfl (As := [.int 0, .int x3, .int x4, .int 0]) (rest := []) rfl (Nat.le_of_ble_eq_true rfl) ⟨Nat.le_of_ble_eq_true rfl, Nat.le_of_ble_eq_true rfl⟩ dX5_drawn_25 (fun r25 σ25 H locs hq_25 hR hS => ?_)
      obtain ⟨rfl, rfl⟩ := hq_25
      refine lv_if_ne (tgt := 36) hx hb dX5_drawn_28 (by decide) (fun c_28 => ?_) (fun c_28 => ?_)
      · replace hf := (if_neg c_28).symm.trans hf
        refine lv_iload_n hx hb dX5_drawn_36 rfl (lv_at hl 2 rfl) ?_
        refine lv_if_ne (tgt := 45) hx hb dX5_drawn_37 (by decide) (fun c_37 => ?_) (fun c_37 => ?_)
        · replace hf := (if_neg c_37).symm.trans hf
          refine lv_aload_n hx hb dX5_drawn_45 rfl (lv_at hl 0 rfl) ?_
          refine x_get C hR inX5 0 (by decide) (cz4 rfl) rfl 4 (by decide) 2 rfl (.ref (G.2.1 61)) rfl dX5_drawn_46 ?_
          refine lv_aload_n hx hb dX5_drawn_49 rfl (lv_at hl 0 rfl) ?_
          refine x_get C hR inX5 0 (by decide) (cz4 rfl) rfl 0 (by decide) 3 rfl (.ref (G.2.1 1)) rfl dX5_drawn_50 ?_
          refine lv_iconst (v := 0) hx hb dX5_drawn_53 (by decide) ?_
          refine lv_iload_n hx hb dX5_drawn_54 rfl (lv_at hl 3 rfl) ?_
          refine lv_iload hx hb dX5_drawn_55 (lv_at hl 4 rfl) ?_
          refine lv_iconst (v := 0) hx hb dX5_drawn_57 (by decide) ?_
          obtain ⟨σ58_, hc_58, hf⟩ := bv_some hf
          refine x_cvV C hl.1 hR hS (c_X4_tell l G 0 x3 x4 0 σ25 _ hc_58) gX5_drawn_X4_tell rfl hdV_X4_tell ⟨Nat.le_of_ble_eq_true rfl, Nat.le_of_ble_eq_true rfl⟩ (by decide) (cz3 rfl) rfl rfl (As := [.ref (G.2.1 1), .int 0, .int x3, .int x4, .int 0]) (rest := []) rfl (Nat.le_of_ble_eq_true rfl) ⟨Nat.le_of_ble_eq_true rfl, Nat.le_of_ble_eq_true rfl⟩ dX5_drawn_58 (fun σ58 H locs hq_58 hR hS => ?_)
          subst hq_58
          refine lv_iload_n hx hb dX5_drawn_61 rfl (lv_at hl 1 rfl) ?_
          refine lv_i2l (v := x1.toInt64) hx hb dX5_drawn_62 rfl ?_
          refine lv_lstore (lv' := [(5, .long x1.toInt64), (0, .ref (G.2.1 0)), (1, .int x1), (2, .int x2), (3, .int x3), (4, .int x4)]) hx hb dX5_drawn_63 hl (by decide) rfl (fun ls hl => ?_)
          refine lv_lconst (v := 0) hx hb dX5_drawn_65 (by decide) ?_
          refine lv_lstore (lv' := [(7, .long 0), (5, .long x1.toInt64), (0, .ref (G.2.1 0)), (1, .int x1), (2, .int x2), (3, .int x3), (4, .int x4)]) hx hb dX5_drawn_66 hl (by decide) rfl (fun ls hl => ?_)
          refine lv_iconst (v := 0) hx hb dX5_drawn_68 (by decide) ?_
          refine lv_istore (lv' := [(9, .int 0), (7, .long 0), (5, .long x1.toInt64), (0, .ref (G.2.1 0)), (1, .int x1), (2, .int x2), (3, .int x3), (4, .int x4)]) hx hb dX5_drawn_69 hl (by decide) rfl (fun ls hl => ?_)
          exact w_X5_drawn_71 C  FU x2 x1.toInt64 0 0 _ hf _ _ _ hR hS (lv_sub hl [3, 5, 2, 1, 0] rfl)
        · replace hf := (if_pos c_37).symm.trans hf
          refine lv_aload_n hx hb dX5_drawn_40 rfl (lv_at hl 0 rfl) ?_
          obtain ⟨r41_, σ41_, hc_41, hf⟩ := bd_some hf
          refine x_cvI C hl.1 hR hS (c_X5_refusedNo l G σ25 _ hc_41) gX5_drawn_X5_refusedNo rfl hdV_X5_refusedNo ⟨Nat.le_of_ble_eq_true rfl, Nat.le_of_ble_eq_true rfl⟩ (by decide) (cz4 rfl) rfl rfl (As := []) (rest := []) rfl (Nat.le_of_ble_eq_true rfl) ⟨Nat.le_of_ble_eq_true rfl, Nat.le_of_ble_eq_true rfl⟩ dX5_drawn_41 (fun r41 σ41 H locs hq_41 hR hS => ?_)
          obtain ⟨rfl, rfl⟩ := hq_41
          obtain rfl := Option.some.inj hf
          exact x_iret C hR hS dX5_drawn_44 ⟨rfl, rfl⟩
      · replace hf := (if_pos c_28).symm.trans hf
        refine lv_aload_n hx hb dX5_drawn_31 rfl (lv_at hl 0 rfl) ?_
        obtain ⟨r32_, σ32_, hc_32, hf⟩ := bd_some hf
        refine x_cvI C hl.1 hR hS (c_X5_refusedBad l G σ25 _ hc_32) gX5_drawn_X5_refusedBad rfl hdV_X5_refusedBad ⟨Nat.le_of_ble_eq_true rfl, Nat.le_of_ble_eq_true rfl⟩ (by decide) (cz4 rfl) rfl rfl (As := []) (rest := []) rfl (Nat.le_of_ble_eq_true rfl) ⟨Nat.le_of_ble_eq_true rfl, Nat.le_of_ble_eq_true rfl⟩ dX5_drawn_32 (fun r32 σ32 H locs hq_32 hR hS => ?_)
        obtain ⟨rfl, rfl⟩ := hq_32
        obtain rfl := Option.some.inj hf
        exact x_iret C hR hS dX5_drawn_35 ⟨rfl, rfl⟩
theorem hdV_X5_part : yX5_part.cls = RX5 ∧ yX5_part.cls ≠ "java/lang/invoke/MethodHandle" ∧ yX5_part.cls ≠ "java/lang/invoke/VarHandle" ∧ (parseMethodDescriptor yX5_part.desc).map (fun d => d.parameters.length) = some 1 := by decide +kernel
def f_X5_part (x1 : Int32) (σ : St) : Option (Int64 × St) :=
  bd (f_X5_within x1 0 1 σ) (fun r3 σ3 => (if r3 = 0 then bd (f_X5_refusedBad σ3) (fun r10 σ10 => some (r10.toInt64, σ10)) else (if x1 = 0 then some (sL σ3 0 8, σ3) else some (sL σ3 0 9, σ3))))
set_option maxHeartbeats 4000000 in
set_option maxRecDepth 100000 in
theorem c_X5_part (l : Launch) (G : GG) (x1 : Int32) (σ : St) (res : Int64 × St) (hf : f_X5_part x1 σ = some res) : CL l yX5_part wsX5_part 1 [.ref (G.2.1 0), .int x1] G σ (fun r u => r = res.1 ∧ u = res.2) := by
  refine x_ent (ret := (some .long)) cX5_part 2 (by decide) rfl (Nat.le_of_ble_eq_true rfl) ?_
  intro p e s m below meth c ls C hR hS hl
  have C : Cx p s m [.ref (G.2.1 0), .int x1].toArray meth c cX5_part RX5 wsX5_part (some .long) 2 G := C
  have hx := C.1
  have hb := C.2.1
  have hl : lv_has ls 2 [(0, .ref (G.2.1 0)), (1, .int x1)] := hl
  have inX5 : ∀ w ∈ u_ws RX5 TX5 13, w ∈ wsX5_part := fun w h => List.mem_cons_of_mem _ (List.mem_append_right _ h)
  unfold f_X5_part at hf
  refine lv_iload_n hx hb dX5_part_0 rfl (lv_at hl 1 rfl) ?_
  refine lv_iconst (v := 0) hx hb dX5_part_1 (by decide) ?_
  refine lv_iconst (v := 1) hx hb dX5_part_2 (by decide) ?_
  obtain ⟨r3_, σ3_, hc_3, hf⟩ := bd_some hf
  refine x_csI C hl.1 hR hS (c_X5_within l G x1 0 1 σ _ hc_3) gX5_part_X5_within rfl hdS_X5_within ⟨Nat.le_of_ble_eq_true rfl, Nat.le_of_ble_eq_true rfl⟩ rfl (As := [.int x1, .int 0, .int 1]) (rest := []) rfl (Nat.le_of_ble_eq_true rfl) ⟨Nat.le_of_ble_eq_true rfl, Nat.le_of_ble_eq_true rfl⟩ dX5_part_3 (fun r3 σ3 H locs hq_3 hR hS => ?_)
  obtain ⟨rfl, rfl⟩ := hq_3
  refine lv_if_ne (tgt := 15) hx hb dX5_part_6 (by decide) (fun c_6 => ?_) (fun c_6 => ?_)
  · replace hf := (if_neg c_6).symm.trans hf
    refine lv_iload_n hx hb dX5_part_15 rfl (lv_at hl 1 rfl) ?_
    refine lv_if_ne (tgt := 26) hx hb dX5_part_16 (by decide) (fun c_16 => ?_) (fun c_16 => ?_)
    · replace hf := (if_neg c_16).symm.trans hf
      refine lv_aload_n hx hb dX5_part_26 rfl (lv_at hl 0 rfl) ?_
      refine x_get C hR inX5 0 (by decide) (cz4 rfl) rfl 9 (by decide) 2 rfl (.long (sL σ3 0 9)) rfl dX5_part_27 ?_
      obtain rfl := Option.some.inj hf
      exact x_lret C hR hS dX5_part_30 ⟨rfl, rfl⟩
    · replace hf := (if_pos c_16).symm.trans hf
      refine lv_aload_n hx hb dX5_part_19 rfl (lv_at hl 0 rfl) ?_
      refine x_get C hR inX5 0 (by decide) (cz4 rfl) rfl 8 (by decide) 1 rfl (.long (sL σ3 0 8)) rfl dX5_part_20 ?_
      refine lv_goto (tgt := 30) hx hb dX5_part_23 (by decide) ?_
      obtain rfl := Option.some.inj hf
      exact x_lret C hR hS dX5_part_30 ⟨rfl, rfl⟩
  · replace hf := (if_pos c_6).symm.trans hf
    refine lv_aload_n hx hb dX5_part_9 rfl (lv_at hl 0 rfl) ?_
    obtain ⟨r10_, σ10_, hc_10, hf⟩ := bd_some hf
    refine x_cvI C hl.1 hR hS (c_X5_refusedBad l G σ3 _ hc_10) gX5_part_X5_refusedBad rfl hdV_X5_refusedBad ⟨Nat.le_of_ble_eq_true rfl, Nat.le_of_ble_eq_true rfl⟩ (by decide) (cz4 rfl) rfl rfl (As := []) (rest := []) rfl (Nat.le_of_ble_eq_true rfl) ⟨Nat.le_of_ble_eq_true rfl, Nat.le_of_ble_eq_true rfl⟩ dX5_part_10 (fun r10 σ10 H locs hq_10 hR hS => ?_)
    obtain ⟨rfl, rfl⟩ := hq_10
    refine lv_i2l (v := r10.toInt64) hx hb dX5_part_13 rfl ?_
    obtain rfl := Option.some.inj hf
    exact x_lret C hR hS dX5_part_14 ⟨rfl, rfl⟩
theorem hdV_X5_image : yX5_image.cls = RX5 ∧ yX5_image.cls ≠ "java/lang/invoke/MethodHandle" ∧ yX5_image.cls ≠ "java/lang/invoke/VarHandle" ∧ (parseMethodDescriptor yX5_image.desc).map (fun d => d.parameters.length) = some 1 := by decide +kernel
def f_X5_image (x1 : Int32) (σ : St) : Option (Int32 × St) :=
  bd (f_X5_within x1 0 1 σ) (fun r3 σ3 => (if r3 = 0 then bd (f_X5_refusedBad σ3) (fun r10 σ10 => some (r10, σ10)) else (if x1 = 0 then bv (f_X0_copyFrom_16_1 σ3) (fun σ26 => some (1, (pI σ26 0 6 1))) else bv (f_X0_copyFrom_31_1 σ3) (fun σ45 => some (1, (pI σ45 0 7 1))))))
set_option maxHeartbeats 4000000 in
set_option maxRecDepth 100000 in
theorem c_X5_image (l : Launch) (G : GG) (x1 : Int32) (σ : St) (res : Int32 × St) (hf : f_X5_image x1 σ = some res) : CI l yX5_image wsX5_image 3 [.ref (G.2.1 0), .int x1] G σ (fun r u => r = res.1 ∧ u = res.2) := by
  refine x_ent (ret := (some .int)) cX5_image 2 (by decide) rfl (Nat.le_of_ble_eq_true rfl) ?_
  intro p e s m below meth c ls C hR hS hl
  have C : Cx p s m [.ref (G.2.1 0), .int x1].toArray meth c cX5_image RX5 wsX5_image (some .int) 2 G := C
  have hx := C.1
  have hb := C.2.1
  have hl : lv_has ls 2 [(0, .ref (G.2.1 0)), (1, .int x1)] := hl
  have inX5 : ∀ w ∈ u_ws RX5 TX5 13, w ∈ wsX5_image := fun w h => List.mem_cons_of_mem _ (List.mem_append_left _ (List.mem_append_left _ (List.mem_append_right _ h)))
  unfold f_X5_image at hf
  refine lv_iload_n hx hb dX5_image_0 rfl (lv_at hl 1 rfl) ?_
  refine lv_iconst (v := 0) hx hb dX5_image_1 (by decide) ?_
  refine lv_iconst (v := 1) hx hb dX5_image_2 (by decide) ?_
  obtain ⟨r3_, σ3_, hc_3, hf⟩ := bd_some hf
  refine x_csI C hl.1 hR hS (c_X5_within l G x1 0 1 σ _ hc_3) gX5_image_X5_within rfl hdS_X5_within ⟨Nat.le_of_ble_eq_true rfl, Nat.le_of_ble_eq_true rfl⟩ rfl (As := [.int x1, .int 0, .int 1]) (rest := []) rfl (Nat.le_of_ble_eq_true rfl) ⟨Nat.le_of_ble_eq_true rfl, Nat.le_of_ble_eq_true rfl⟩ dX5_image_3 (fun r3 σ3 H locs hq_3 hR hS => ?_)
  obtain ⟨rfl, rfl⟩ := hq_3
  refine lv_if_ne (tgt := 14) hx hb dX5_image_6 (by decide) (fun c_6 => ?_) (fun c_6 => ?_)
  · replace hf := (if_neg c_6).symm.trans hf
    refine lv_iload_n hx hb dX5_image_14 rfl (lv_at hl 1 rfl) ?_
    refine lv_if_ne (tgt := 37) hx hb dX5_image_15 (by decide) (fun c_15 => ?_) (fun c_15 => ?_)
    · replace hf := (if_neg c_15).symm.trans hf
      refine lv_aload_n hx hb dX5_image_37 rfl (lv_at hl 0 rfl) ?_
      refine x_get C hR inX5 0 (by decide) (cz4 rfl) rfl 2 (by decide) 4 rfl (.ref (G.2.1 31)) rfl dX5_image_38 ?_
      refine lv_aload_n hx hb dX5_image_41 rfl (lv_at hl 0 rfl) ?_
      refine x_get C hR inX5 0 (by decide) (cz4 rfl) rfl 0 (by decide) 2 rfl (.ref (G.2.1 1)) rfl dX5_image_42 ?_
      obtain ⟨σ45_, hc_45, hf⟩ := bv_some hf
      refine x_cvV C hl.1 hR hS (c_X0_copyFrom_31_1 l G σ3 _ hc_45) gX5_image_X0_copyFrom rfl hdV_X0_copyFrom ⟨Nat.le_of_ble_eq_true rfl, Nat.le_of_ble_eq_true rfl⟩ (by decide) (cz0 rfl) rfl rfl (As := [.ref (G.2.1 1)]) (rest := []) rfl (Nat.le_of_ble_eq_true rfl) ⟨Nat.le_of_ble_eq_true rfl, Nat.le_of_ble_eq_true rfl⟩ dX5_image_45 (fun σ45 H locs hq_45 hR hS => ?_)
      subst hq_45
      refine lv_aload_n hx hb dX5_image_48 rfl (lv_at hl 0 rfl) ?_
      refine lv_iconst (v := 1) hx hb dX5_image_49 (by decide) ?_
      refine x_put (τ := (pI σ45 0 7 1)) C hR hS inX5 tyX5 tyX5_ok nmX5 0 (by decide) (cz4 rfl) rfl 7 (by decide) (pfI4_7 rfl) pI_o 5 rfl rfl rfl rfl (Nat.le_of_ble_eq_true rfl) dX5_image_50 (fun H locs hR hS => ?_)
      refine lv_iconst (v := 1) hx hb dX5_image_53 (by decide) ?_
      obtain rfl := Option.some.inj hf
      exact x_iret C hR hS dX5_image_54 ⟨rfl, rfl⟩
    · replace hf := (if_pos c_15).symm.trans hf
      refine lv_aload_n hx hb dX5_image_18 rfl (lv_at hl 0 rfl) ?_
      refine x_get C hR inX5 0 (by decide) (cz4 rfl) rfl 1 (by decide) 1 rfl (.ref (G.2.1 16)) rfl dX5_image_19 ?_
      refine lv_aload_n hx hb dX5_image_22 rfl (lv_at hl 0 rfl) ?_
      refine x_get C hR inX5 0 (by decide) (cz4 rfl) rfl 0 (by decide) 2 rfl (.ref (G.2.1 1)) rfl dX5_image_23 ?_
      obtain ⟨σ26_, hc_26, hf⟩ := bv_some hf
      refine x_cvV C hl.1 hR hS (c_X0_copyFrom_16_1 l G σ3 _ hc_26) gX5_image_X0_copyFrom rfl hdV_X0_copyFrom ⟨Nat.le_of_ble_eq_true rfl, Nat.le_of_ble_eq_true rfl⟩ (by decide) (cz0 rfl) rfl rfl (As := [.ref (G.2.1 1)]) (rest := []) rfl (Nat.le_of_ble_eq_true rfl) ⟨Nat.le_of_ble_eq_true rfl, Nat.le_of_ble_eq_true rfl⟩ dX5_image_26 (fun σ26 H locs hq_26 hR hS => ?_)
      subst hq_26
      refine lv_aload_n hx hb dX5_image_29 rfl (lv_at hl 0 rfl) ?_
      refine lv_iconst (v := 1) hx hb dX5_image_30 (by decide) ?_
      refine x_put (τ := (pI σ26 0 6 1)) C hR hS inX5 tyX5 tyX5_ok nmX5 0 (by decide) (cz4 rfl) rfl 6 (by decide) (pfI4_6 rfl) pI_o 3 rfl rfl rfl rfl (Nat.le_of_ble_eq_true rfl) dX5_image_31 (fun H locs hR hS => ?_)
      refine lv_goto (tgt := 53) hx hb dX5_image_34 (by decide) ?_
      refine lv_iconst (v := 1) hx hb dX5_image_53 (by decide) ?_
      obtain rfl := Option.some.inj hf
      exact x_iret C hR hS dX5_image_54 ⟨rfl, rfl⟩
  · replace hf := (if_pos c_6).symm.trans hf
    refine lv_aload_n hx hb dX5_image_9 rfl (lv_at hl 0 rfl) ?_
    obtain ⟨r10_, σ10_, hc_10, hf⟩ := bd_some hf
    refine x_cvI C hl.1 hR hS (c_X5_refusedBad l G σ3 _ hc_10) gX5_image_X5_refusedBad rfl hdV_X5_refusedBad ⟨Nat.le_of_ble_eq_true rfl, Nat.le_of_ble_eq_true rfl⟩ (by decide) (cz4 rfl) rfl rfl (As := []) (rest := []) rfl (Nat.le_of_ble_eq_true rfl) ⟨Nat.le_of_ble_eq_true rfl, Nat.le_of_ble_eq_true rfl⟩ dX5_image_10 (fun r10 σ10 H locs hq_10 hR hS => ?_)
    obtain ⟨rfl, rfl⟩ := hq_10
    obtain rfl := Option.some.inj hf
    exact x_iret C hR hS dX5_image_13 ⟨rfl, rfl⟩
theorem hdV_X5_from : yX5_from.cls = RX5 ∧ yX5_from.cls ≠ "java/lang/invoke/MethodHandle" ∧ yX5_from.cls ≠ "java/lang/invoke/VarHandle" ∧ (parseMethodDescriptor yX5_from.desc).map (fun d => d.parameters.length) = some 1 := by decide +kernel
def f_X5_from_40 (x1 : Int32) (σ : St) : Option (Int32 × St) :=
  (if x1 = 0 then bv (f_X0_copyFrom_1_16 σ) (fun σ59 => some (1, σ59)) else bv (f_X0_copyFrom_1_31 σ) (fun σ59 => some (1, σ59)))
def f_X5_from (x1 : Int32) (σ : St) : Option (Int32 × St) :=
  bd (f_X5_within x1 0 1 σ) (fun r3 σ3 => (if r3 = 0 then bd (f_X5_refusedBad σ3) (fun r10 σ10 => some (r10, σ10)) else (if x1 = 0 then (if (sI σ3 0 6) = 0 then bd (f_X5_refusedNo σ3) (fun r36 σ36 => some (r36, σ36)) else f_X5_from_40 x1 σ3) else (if (sI σ3 0 7) = 0 then bd (f_X5_refusedNo σ3) (fun r36 σ36 => some (r36, σ36)) else f_X5_from_40 x1 σ3))))
set_option maxHeartbeats 4000000 in
set_option maxRecDepth 100000 in
theorem w_X5_from_40 {p : Program} {l : Launch} {e : Env} {s : State} {m : MethodId} {args : Array Value} {below : List Frame} {meth : Method} {c : Code} {G : GG} (C : Cx p s m args meth c cX5_from RX5 wsX5_from (some .int) 2 G) {res : Int32 × St} : ∀ (x1 : Int32) (σ : St), f_X5_from_40 x1 σ = some res → WC p l e 3 s m args below meth c G (QI G res) 2 40 [(0, .ref (G.2.1 0)), (1, .int x1)] [] σ := by
  have hx := C.1
  have hb := C.2.1
  have inX5 : ∀ w ∈ u_ws RX5 TX5 13, w ∈ wsX5_from := fun w h => List.mem_cons_of_mem _ (List.mem_append_left _ (List.mem_append_left _ (List.mem_append_right _ h)))
  intro x1 σ hf _ _ _ hR hS hl
  unfold f_X5_from_40 at hf
  refine lv_aload_n hx hb dX5_from_40 rfl (lv_at hl 0 rfl) ?_
  refine x_get C hR inX5 0 (by decide) (cz4 rfl) rfl 0 (by decide) 3 rfl (.ref (G.2.1 1)) rfl dX5_from_41 ?_
  refine lv_iload_n hx hb dX5_from_44 rfl (lv_at hl 1 rfl) ?_
  refine lv_if_ne (tgt := 55) hx hb dX5_from_45 (by decide) (fun c_45 => ?_) (fun c_45 => ?_)
  · replace hf := (if_neg c_45).symm.trans hf
    refine lv_aload_n hx hb dX5_from_55 rfl (lv_at hl 0 rfl) ?_
    refine x_get C hR inX5 0 (by decide) (cz4 rfl) rfl 2 (by decide) 5 rfl (.ref (G.2.1 31)) rfl dX5_from_56 ?_
    obtain ⟨σ59_, hc_59, hf⟩ := bv_some hf
    refine x_cvV C hl.1 hR hS (c_X0_copyFrom_1_31 l G σ _ hc_59) gX5_from_X0_copyFrom rfl hdV_X0_copyFrom ⟨Nat.le_of_ble_eq_true rfl, Nat.le_of_ble_eq_true rfl⟩ (by decide) (cz0 rfl) rfl rfl (As := [.ref (G.2.1 31)]) (rest := []) rfl (Nat.le_of_ble_eq_true rfl) ⟨Nat.le_of_ble_eq_true rfl, Nat.le_of_ble_eq_true rfl⟩ dX5_from_59 (fun σ59 H locs hq_59 hR hS => ?_)
    subst hq_59
    refine lv_iconst (v := 1) hx hb dX5_from_62 (by decide) ?_
    obtain rfl := Option.some.inj hf
    exact x_iret C hR hS dX5_from_63 ⟨rfl, rfl⟩
  · replace hf := (if_pos c_45).symm.trans hf
    refine lv_aload_n hx hb dX5_from_48 rfl (lv_at hl 0 rfl) ?_
    refine x_get C hR inX5 0 (by decide) (cz4 rfl) rfl 1 (by decide) 4 rfl (.ref (G.2.1 16)) rfl dX5_from_49 ?_
    refine lv_goto (tgt := 59) hx hb dX5_from_52 (by decide) ?_
    obtain ⟨σ59_, hc_59, hf⟩ := bv_some hf
    refine x_cvV C hl.1 hR hS (c_X0_copyFrom_1_16 l G σ _ hc_59) gX5_from_X0_copyFrom rfl hdV_X0_copyFrom ⟨Nat.le_of_ble_eq_true rfl, Nat.le_of_ble_eq_true rfl⟩ (by decide) (cz0 rfl) rfl rfl (As := [.ref (G.2.1 16)]) (rest := []) rfl (Nat.le_of_ble_eq_true rfl) ⟨Nat.le_of_ble_eq_true rfl, Nat.le_of_ble_eq_true rfl⟩ dX5_from_59 (fun σ59 H locs hq_59 hR hS => ?_)
    subst hq_59
    refine lv_iconst (v := 1) hx hb dX5_from_62 (by decide) ?_
    obtain rfl := Option.some.inj hf
    exact x_iret C hR hS dX5_from_63 ⟨rfl, rfl⟩
set_option maxHeartbeats 4000000 in
set_option maxRecDepth 100000 in
theorem c_X5_from (l : Launch) (G : GG) (x1 : Int32) (σ : St) (res : Int32 × St) (hf : f_X5_from x1 σ = some res) : CI l yX5_from wsX5_from 3 [.ref (G.2.1 0), .int x1] G σ (fun r u => r = res.1 ∧ u = res.2) := by
  refine x_ent (ret := (some .int)) cX5_from 2 (by decide) rfl (Nat.le_of_ble_eq_true rfl) ?_
  intro p e s m below meth c ls C hR hS hl
  have C : Cx p s m [.ref (G.2.1 0), .int x1].toArray meth c cX5_from RX5 wsX5_from (some .int) 2 G := C
  have hx := C.1
  have hb := C.2.1
  have hl : lv_has ls 2 [(0, .ref (G.2.1 0)), (1, .int x1)] := hl
  have inX5 : ∀ w ∈ u_ws RX5 TX5 13, w ∈ wsX5_from := fun w h => List.mem_cons_of_mem _ (List.mem_append_left _ (List.mem_append_left _ (List.mem_append_right _ h)))
  unfold f_X5_from at hf
  refine lv_iload_n hx hb dX5_from_0 rfl (lv_at hl 1 rfl) ?_
  refine lv_iconst (v := 0) hx hb dX5_from_1 (by decide) ?_
  refine lv_iconst (v := 1) hx hb dX5_from_2 (by decide) ?_
  obtain ⟨r3_, σ3_, hc_3, hf⟩ := bd_some hf
  refine x_csI C hl.1 hR hS (c_X5_within l G x1 0 1 σ _ hc_3) gX5_from_X5_within rfl hdS_X5_within ⟨Nat.le_of_ble_eq_true rfl, Nat.le_of_ble_eq_true rfl⟩ rfl (As := [.int x1, .int 0, .int 1]) (rest := []) rfl (Nat.le_of_ble_eq_true rfl) ⟨Nat.le_of_ble_eq_true rfl, Nat.le_of_ble_eq_true rfl⟩ dX5_from_3 (fun r3 σ3 H locs hq_3 hR hS => ?_)
  obtain ⟨rfl, rfl⟩ := hq_3
  refine lv_if_ne (tgt := 14) hx hb dX5_from_6 (by decide) (fun c_6 => ?_) (fun c_6 => ?_)
  · replace hf := (if_neg c_6).symm.trans hf
    refine lv_iload_n hx hb dX5_from_14 rfl (lv_at hl 1 rfl) ?_
    refine lv_if_ne (tgt := 28) hx hb dX5_from_15 (by decide) (fun c_15 => ?_) (fun c_15 => ?_)
    · replace hf := (if_neg c_15).symm.trans hf
      refine lv_aload_n hx hb dX5_from_28 rfl (lv_at hl 0 rfl) ?_
      refine x_get C hR inX5 0 (by decide) (cz4 rfl) rfl 7 (by decide) 2 rfl (.int (sI σ3 0 7)) rfl dX5_from_29 ?_
      refine lv_if_ne (tgt := 40) hx hb dX5_from_32 (by decide) (fun c_32 => ?_) (fun c_32 => ?_)
      · replace hf := (if_neg c_32).symm.trans hf
        exact w_X5_from_40 C  x1 _ hf _ _ _ hR hS (lv_sub hl [0, 1] rfl)
      · replace hf := (if_pos c_32).symm.trans hf
        refine lv_aload_n hx hb dX5_from_35 rfl (lv_at hl 0 rfl) ?_
        obtain ⟨r36_, σ36_, hc_36, hf⟩ := bd_some hf
        refine x_cvI C hl.1 hR hS (c_X5_refusedNo l G σ3 _ hc_36) gX5_from_X5_refusedNo rfl hdV_X5_refusedNo ⟨Nat.le_of_ble_eq_true rfl, Nat.le_of_ble_eq_true rfl⟩ (by decide) (cz4 rfl) rfl rfl (As := []) (rest := []) rfl (Nat.le_of_ble_eq_true rfl) ⟨Nat.le_of_ble_eq_true rfl, Nat.le_of_ble_eq_true rfl⟩ dX5_from_36 (fun r36 σ36 H locs hq_36 hR hS => ?_)
        obtain ⟨rfl, rfl⟩ := hq_36
        obtain rfl := Option.some.inj hf
        exact x_iret C hR hS dX5_from_39 ⟨rfl, rfl⟩
    · replace hf := (if_pos c_15).symm.trans hf
      refine lv_aload_n hx hb dX5_from_18 rfl (lv_at hl 0 rfl) ?_
      refine x_get C hR inX5 0 (by decide) (cz4 rfl) rfl 6 (by decide) 1 rfl (.int (sI σ3 0 6)) rfl dX5_from_19 ?_
      refine lv_if_eq (tgt := 35) hx hb dX5_from_22 (by decide) (fun c_22 => ?_) (fun c_22 => ?_)
      · replace hf := (if_pos c_22).symm.trans hf
        refine lv_aload_n hx hb dX5_from_35 rfl (lv_at hl 0 rfl) ?_
        obtain ⟨r36_, σ36_, hc_36, hf⟩ := bd_some hf
        refine x_cvI C hl.1 hR hS (c_X5_refusedNo l G σ3 _ hc_36) gX5_from_X5_refusedNo rfl hdV_X5_refusedNo ⟨Nat.le_of_ble_eq_true rfl, Nat.le_of_ble_eq_true rfl⟩ (by decide) (cz4 rfl) rfl rfl (As := []) (rest := []) rfl (Nat.le_of_ble_eq_true rfl) ⟨Nat.le_of_ble_eq_true rfl, Nat.le_of_ble_eq_true rfl⟩ dX5_from_36 (fun r36 σ36 H locs hq_36 hR hS => ?_)
        obtain ⟨rfl, rfl⟩ := hq_36
        obtain rfl := Option.some.inj hf
        exact x_iret C hR hS dX5_from_39 ⟨rfl, rfl⟩
      · replace hf := (if_neg c_22).symm.trans hf
        refine lv_goto (tgt := 40) hx hb dX5_from_25 (by decide) ?_
        exact w_X5_from_40 C  x1 _ hf _ _ _ hR hS (lv_sub hl [0, 1] rfl)
  · replace hf := (if_pos c_6).symm.trans hf
    refine lv_aload_n hx hb dX5_from_9 rfl (lv_at hl 0 rfl) ?_
    obtain ⟨r10_, σ10_, hc_10, hf⟩ := bd_some hf
    refine x_cvI C hl.1 hR hS (c_X5_refusedBad l G σ3 _ hc_10) gX5_from_X5_refusedBad rfl hdV_X5_refusedBad ⟨Nat.le_of_ble_eq_true rfl, Nat.le_of_ble_eq_true rfl⟩ (by decide) (cz4 rfl) rfl rfl (As := []) (rest := []) rfl (Nat.le_of_ble_eq_true rfl) ⟨Nat.le_of_ble_eq_true rfl, Nat.le_of_ble_eq_true rfl⟩ dX5_from_10 (fun r10 σ10 H locs hq_10 hR hS => ?_)
    obtain ⟨rfl, rfl⟩ := hq_10
    obtain rfl := Option.some.inj hf
    exact x_iret C hR hS dX5_from_13 ⟨rfl, rfl⟩
theorem hdV_X5_status : yX5_status.cls = RX5 ∧ yX5_status.cls ≠ "java/lang/invoke/MethodHandle" ∧ yX5_status.cls ≠ "java/lang/invoke/VarHandle" ∧ (parseMethodDescriptor yX5_status.desc).map (fun d => d.parameters.length) = some 1 := by decide +kernel
def f_X5_status (x1 : Int32) (σ : St) : Option (Int32 × St) :=
  (if x1 = 0 then some (sI σ 0 10, σ) else (if x1 = 1 then some (sI σ 0 11, σ) else (if x1 = 2 then some (sI σ 0 12, σ) else some ((-1), (pI σ 0 10 ((sI σ 0 10) + 1))))))
set_option maxHeartbeats 4000000 in
set_option maxRecDepth 100000 in
theorem c_X5_status (l : Launch) (G : GG) (x1 : Int32) (σ : St) (res : Int32 × St) (hf : f_X5_status x1 σ = some res) : CI l yX5_status wsX5_status 0 [.ref (G.2.1 0), .int x1] G σ (fun r u => r = res.1 ∧ u = res.2) := by
  refine x_ent (ret := (some .int)) cX5_status 2 (by decide) rfl (Nat.le_of_ble_eq_true rfl) ?_
  intro p e s m below meth c ls C hR hS hl
  have C : Cx p s m [.ref (G.2.1 0), .int x1].toArray meth c cX5_status RX5 wsX5_status (some .int) 2 G := C
  have hx := C.1
  have hb := C.2.1
  have hl : lv_has ls 2 [(0, .ref (G.2.1 0)), (1, .int x1)] := hl
  have inX5 : ∀ w ∈ u_ws RX5 TX5 13, w ∈ wsX5_status := fun w h => List.mem_cons_of_mem _ (List.mem_append_right _ h)
  unfold f_X5_status at hf
  refine lv_iload_n hx hb dX5_status_0 rfl (lv_at hl 1 rfl) ?_
  by_cases c_1_0 : x1 = 0
  · replace hf := (if_pos c_1_0).symm.trans hf
    refine x_tbl (tgt := 28) (off := 27) hx hb c_1_0 dX5_status_1 (by decide) (by decide) (by decide) (by decide) ?_
    refine lv_aload_n hx hb dX5_status_28 rfl (lv_at hl 0 rfl) ?_
    refine x_get C hR inX5 0 (by decide) (cz4 rfl) rfl 10 (by decide) 1 rfl (.int (sI σ 0 10)) rfl dX5_status_29 ?_
    obtain rfl := Option.some.inj hf
    exact x_iret C hR hS dX5_status_32 ⟨rfl, rfl⟩
  · replace hf := (if_neg c_1_0).symm.trans hf
    by_cases c_1_1 : x1 = 1
    · replace hf := (if_pos c_1_1).symm.trans hf
      refine x_tbl (tgt := 33) (off := 32) hx hb c_1_1 dX5_status_1 (by decide) (by decide) (by decide) (by decide) ?_
      refine lv_aload_n hx hb dX5_status_33 rfl (lv_at hl 0 rfl) ?_
      refine x_get C hR inX5 0 (by decide) (cz4 rfl) rfl 11 (by decide) 2 rfl (.int (sI σ 0 11)) rfl dX5_status_34 ?_
      obtain rfl := Option.some.inj hf
      exact x_iret C hR hS dX5_status_37 ⟨rfl, rfl⟩
    · replace hf := (if_neg c_1_1).symm.trans hf
      by_cases c_1_2 : x1 = 2
      · replace hf := (if_pos c_1_2).symm.trans hf
        refine x_tbl (tgt := 38) (off := 37) hx hb c_1_2 dX5_status_1 (by decide) (by decide) (by decide) (by decide) ?_
        refine lv_aload_n hx hb dX5_status_38 rfl (lv_at hl 0 rfl) ?_
        refine x_get C hR inX5 0 (by decide) (cz4 rfl) rfl 12 (by decide) 3 rfl (.int (sI σ 0 12)) rfl dX5_status_39 ?_
        obtain rfl := Option.some.inj hf
        exact x_iret C hR hS dX5_status_42 ⟨rfl, rfl⟩
      · replace hf := (if_neg c_1_2).symm.trans hf
        have n_1_0 : Int32.toInt x1 ≠ 0 := x_ne c_1_0
        have n_1_1 : Int32.toInt x1 ≠ 1 := x_ne c_1_1
        have n_1_2 : Int32.toInt x1 ≠ 2 := x_ne c_1_2
        refine lv_tableOut (tgt := 43) hx hb dX5_status_1 (by omega) (by decide) ?_
        refine lv_aload_n hx hb dX5_status_43 rfl (lv_at hl 0 rfl) ?_
        refine lv_dup hx hb dX5_status_44 rfl ?_
        refine x_get C hR inX5 0 (by decide) (cz4 rfl) rfl 10 (by decide) 1 rfl (.int (sI σ 0 10)) rfl dX5_status_45 ?_
        refine lv_iconst (v := 1) hx hb dX5_status_48 (by decide) ?_
        refine lv_iadd hx hb dX5_status_49 ?_
        refine x_put (τ := (pI σ 0 10 ((sI σ 0 10) + 1))) C hR hS inX5 tyX5 tyX5_ok nmX5 0 (by decide) (cz4 rfl) rfl 10 (by decide) (pfI4_10 rfl) pI_o 1 rfl rfl rfl rfl (Nat.le_of_ble_eq_true rfl) dX5_status_50 (fun H locs hR hS => ?_)
        refine lv_iconst (v := (-1)) hx hb dX5_status_53 (by decide) ?_
        obtain rfl := Option.some.inj hf
        exact x_iret C hR hS dX5_status_54 ⟨rfl, rfl⟩
theorem hdV_X5_howMany : yX5_howMany.cls = RX5 ∧ yX5_howMany.cls ≠ "java/lang/invoke/MethodHandle" ∧ yX5_howMany.cls ≠ "java/lang/invoke/VarHandle" ∧ (parseMethodDescriptor yX5_howMany.desc).map (fun d => d.parameters.length) = some 1 := by decide +kernel
def f_X5_howMany (x1 : Int32) (σ : St) : Option (Int32 × St) :=
  (if x1 = 0 then some (sI σ 1 0, σ) else (if x1 = 1 then some (sI σ 1 1, σ) else (if x1 = 2 then some (sI σ 1 3, σ) else (if x1 = 3 then some (sI σ 1 4, σ) else (if x1 = 4 then some (sI σ 1 5, σ) else (if x1 = 5 then some (sI σ 1 6, σ) else some (sI σ 72 0, σ)))))))
set_option maxHeartbeats 4000000 in
set_option maxRecDepth 100000 in
theorem c_X5_howMany (l : Launch) (G : GG) (x1 : Int32) (σ : St) (res : Int32 × St) (hf : f_X5_howMany x1 σ = some res) : CI l yX5_howMany wsX5_howMany 0 [.ref (G.2.1 0), .int x1] G σ (fun r u => r = res.1 ∧ u = res.2) := by
  refine x_ent (ret := (some .int)) cX5_howMany 2 (by decide) rfl (Nat.le_of_ble_eq_true rfl) ?_
  intro p e s m below meth c ls C hR hS hl
  have C : Cx p s m [.ref (G.2.1 0), .int x1].toArray meth c cX5_howMany RX5 wsX5_howMany (some .int) 2 G := C
  have hx := C.1
  have hb := C.2.1
  have hl : lv_has ls 2 [(0, .ref (G.2.1 0)), (1, .int x1)] := hl
  have inX5 : ∀ w ∈ u_ws RX5 TX5 13, w ∈ wsX5_howMany := fun w h => List.mem_cons_of_mem _ (List.mem_append_left _ (List.mem_append_left _ (List.mem_append_right _ h)))
  have inX0 : ∀ w ∈ u_ws RX0 TX0 14, w ∈ wsX5_howMany := fun w h => List.mem_cons_of_mem _ (List.mem_append_left _ (List.mem_append_right _ h))
  have inX3 : ∀ w ∈ u_ws RX3 TX3 5, w ∈ wsX5_howMany := fun w h => List.mem_cons_of_mem _ (List.mem_append_right _ h)
  unfold f_X5_howMany at hf
  refine lv_iload_n hx hb dX5_howMany_0 rfl (lv_at hl 1 rfl) ?_
  by_cases c_1_0 : x1 = 0
  · replace hf := (if_pos c_1_0).symm.trans hf
    refine x_tbl (tgt := 40) (off := 39) hx hb c_1_0 dX5_howMany_1 (by decide) (by decide) (by decide) (by decide) ?_
    refine lv_aload_n hx hb dX5_howMany_40 rfl (lv_at hl 0 rfl) ?_
    refine x_get C hR inX5 0 (by decide) (cz4 rfl) rfl 0 (by decide) 1 rfl (.ref (G.2.1 1)) rfl dX5_howMany_41 ?_
    refine x_get C hR inX0 1 (by decide) (cz0 rfl) rfl 0 (by decide) 2 rfl (.int (sI σ 1 0)) rfl dX5_howMany_44 ?_
    obtain rfl := Option.some.inj hf
    exact x_iret C hR hS dX5_howMany_47 ⟨rfl, rfl⟩
  · replace hf := (if_neg c_1_0).symm.trans hf
    by_cases c_1_1 : x1 = 1
    · replace hf := (if_pos c_1_1).symm.trans hf
      refine x_tbl (tgt := 48) (off := 47) hx hb c_1_1 dX5_howMany_1 (by decide) (by decide) (by decide) (by decide) ?_
      refine lv_aload_n hx hb dX5_howMany_48 rfl (lv_at hl 0 rfl) ?_
      refine x_get C hR inX5 0 (by decide) (cz4 rfl) rfl 0 (by decide) 1 rfl (.ref (G.2.1 1)) rfl dX5_howMany_49 ?_
      refine x_get C hR inX0 1 (by decide) (cz0 rfl) rfl 1 (by decide) 3 rfl (.int (sI σ 1 1)) rfl dX5_howMany_52 ?_
      obtain rfl := Option.some.inj hf
      exact x_iret C hR hS dX5_howMany_55 ⟨rfl, rfl⟩
    · replace hf := (if_neg c_1_1).symm.trans hf
      by_cases c_1_2 : x1 = 2
      · replace hf := (if_pos c_1_2).symm.trans hf
        refine x_tbl (tgt := 56) (off := 55) hx hb c_1_2 dX5_howMany_1 (by decide) (by decide) (by decide) (by decide) ?_
        refine lv_aload_n hx hb dX5_howMany_56 rfl (lv_at hl 0 rfl) ?_
        refine x_get C hR inX5 0 (by decide) (cz4 rfl) rfl 0 (by decide) 1 rfl (.ref (G.2.1 1)) rfl dX5_howMany_57 ?_
        refine x_get C hR inX0 1 (by decide) (cz0 rfl) rfl 3 (by decide) 4 rfl (.int (sI σ 1 3)) rfl dX5_howMany_60 ?_
        obtain rfl := Option.some.inj hf
        exact x_iret C hR hS dX5_howMany_63 ⟨rfl, rfl⟩
      · replace hf := (if_neg c_1_2).symm.trans hf
        by_cases c_1_3 : x1 = 3
        · replace hf := (if_pos c_1_3).symm.trans hf
          refine x_tbl (tgt := 64) (off := 63) hx hb c_1_3 dX5_howMany_1 (by decide) (by decide) (by decide) (by decide) ?_
          refine lv_aload_n hx hb dX5_howMany_64 rfl (lv_at hl 0 rfl) ?_
          refine x_get C hR inX5 0 (by decide) (cz4 rfl) rfl 0 (by decide) 1 rfl (.ref (G.2.1 1)) rfl dX5_howMany_65 ?_
          refine x_get C hR inX0 1 (by decide) (cz0 rfl) rfl 4 (by decide) 5 rfl (.int (sI σ 1 4)) rfl dX5_howMany_68 ?_
          obtain rfl := Option.some.inj hf
          exact x_iret C hR hS dX5_howMany_71 ⟨rfl, rfl⟩
        · replace hf := (if_neg c_1_3).symm.trans hf
          by_cases c_1_4 : x1 = 4
          · replace hf := (if_pos c_1_4).symm.trans hf
            refine x_tbl (tgt := 72) (off := 71) hx hb c_1_4 dX5_howMany_1 (by decide) (by decide) (by decide) (by decide) ?_
            refine lv_aload_n hx hb dX5_howMany_72 rfl (lv_at hl 0 rfl) ?_
            refine x_get C hR inX5 0 (by decide) (cz4 rfl) rfl 0 (by decide) 1 rfl (.ref (G.2.1 1)) rfl dX5_howMany_73 ?_
            refine x_get C hR inX0 1 (by decide) (cz0 rfl) rfl 5 (by decide) 6 rfl (.int (sI σ 1 5)) rfl dX5_howMany_76 ?_
            obtain rfl := Option.some.inj hf
            exact x_iret C hR hS dX5_howMany_79 ⟨rfl, rfl⟩
          · replace hf := (if_neg c_1_4).symm.trans hf
            by_cases c_1_5 : x1 = 5
            · replace hf := (if_pos c_1_5).symm.trans hf
              refine x_tbl (tgt := 80) (off := 79) hx hb c_1_5 dX5_howMany_1 (by decide) (by decide) (by decide) (by decide) ?_
              refine lv_aload_n hx hb dX5_howMany_80 rfl (lv_at hl 0 rfl) ?_
              refine x_get C hR inX5 0 (by decide) (cz4 rfl) rfl 0 (by decide) 1 rfl (.ref (G.2.1 1)) rfl dX5_howMany_81 ?_
              refine x_get C hR inX0 1 (by decide) (cz0 rfl) rfl 6 (by decide) 7 rfl (.int (sI σ 1 6)) rfl dX5_howMany_84 ?_
              obtain rfl := Option.some.inj hf
              exact x_iret C hR hS dX5_howMany_87 ⟨rfl, rfl⟩
            · replace hf := (if_neg c_1_5).symm.trans hf
              have n_1_0 : Int32.toInt x1 ≠ 0 := x_ne c_1_0
              have n_1_1 : Int32.toInt x1 ≠ 1 := x_ne c_1_1
              have n_1_2 : Int32.toInt x1 ≠ 2 := x_ne c_1_2
              have n_1_3 : Int32.toInt x1 ≠ 3 := x_ne c_1_3
              have n_1_4 : Int32.toInt x1 ≠ 4 := x_ne c_1_4
              have n_1_5 : Int32.toInt x1 ≠ 5 := x_ne c_1_5
              refine lv_tableOut (tgt := 88) hx hb dX5_howMany_1 (by omega) (by decide) ?_
              refine lv_aload_n hx hb dX5_howMany_88 rfl (lv_at hl 0 rfl) ?_
              refine x_get C hR inX5 0 (by decide) (cz4 rfl) rfl 5 (by decide) 8 rfl (.ref (G.2.1 72)) rfl dX5_howMany_89 ?_
              refine x_get C hR inX3 72 (by decide) (cz2 rfl) rfl 0 (by decide) 9 rfl (.int (sI σ 72 0)) rfl dX5_howMany_92 ?_
              obtain rfl := Option.some.inj hf
              exact x_iret C hR hS dX5_howMany_95 ⟨rfl, rfl⟩
theorem hdV_X5_count : yX5_count.cls = RX5 ∧ yX5_count.cls ≠ "java/lang/invoke/MethodHandle" ∧ yX5_count.cls ≠ "java/lang/invoke/VarHandle" ∧ (parseMethodDescriptor yX5_count.desc).map (fun d => d.parameters.length) = some 1 := by decide +kernel
def f_X5_count (x1 : Int32) (σ : St) : Option (Int32 × St) :=
  bd (f_X5_within x1 0 6 σ) (fun r4 σ4 => (if r4 = 0 then bd (f_X5_refusedBad σ4) (fun r11 σ11 => some (r11, σ11)) else bd (f_X5_howMany x1 σ4) (fun r17 σ17 => some (r17, σ17))))
set_option maxHeartbeats 4000000 in
set_option maxRecDepth 100000 in
theorem c_X5_count (l : Launch) (G : GG) (x1 : Int32) (σ : St) (res : Int32 × St) (hf : f_X5_count x1 σ = some res) : CI l yX5_count wsX5_count 1 [.ref (G.2.1 0), .int x1] G σ (fun r u => r = res.1 ∧ u = res.2) := by
  refine x_ent (ret := (some .int)) cX5_count 2 (by decide) rfl (Nat.le_of_ble_eq_true rfl) ?_
  intro p e s m below meth c ls C hR hS hl
  have C : Cx p s m [.ref (G.2.1 0), .int x1].toArray meth c cX5_count RX5 wsX5_count (some .int) 2 G := C
  have hx := C.1
  have hb := C.2.1
  have hl : lv_has ls 2 [(0, .ref (G.2.1 0)), (1, .int x1)] := hl
  unfold f_X5_count at hf
  refine lv_iload_n hx hb dX5_count_0 rfl (lv_at hl 1 rfl) ?_
  refine lv_iconst (v := 0) hx hb dX5_count_1 (by decide) ?_
  refine lv_bipush (v := 6) hx hb dX5_count_2 (by decide) ?_
  obtain ⟨r4_, σ4_, hc_4, hf⟩ := bd_some hf
  refine x_csI C hl.1 hR hS (c_X5_within l G x1 0 6 σ _ hc_4) gX5_count_X5_within rfl hdS_X5_within ⟨Nat.le_of_ble_eq_true rfl, Nat.le_of_ble_eq_true rfl⟩ rfl (As := [.int x1, .int 0, .int 6]) (rest := []) rfl (Nat.le_of_ble_eq_true rfl) ⟨Nat.le_of_ble_eq_true rfl, Nat.le_of_ble_eq_true rfl⟩ dX5_count_4 (fun r4 σ4 H locs hq_4 hR hS => ?_)
  obtain ⟨rfl, rfl⟩ := hq_4
  refine lv_if_ne (tgt := 15) hx hb dX5_count_7 (by decide) (fun c_7 => ?_) (fun c_7 => ?_)
  · replace hf := (if_neg c_7).symm.trans hf
    refine lv_aload_n hx hb dX5_count_15 rfl (lv_at hl 0 rfl) ?_
    refine lv_iload_n hx hb dX5_count_16 rfl (lv_at hl 1 rfl) ?_
    obtain ⟨r17_, σ17_, hc_17, hf⟩ := bd_some hf
    refine x_cvI C hl.1 hR hS (c_X5_howMany l G x1 σ4 _ hc_17) gX5_count_X5_howMany rfl hdV_X5_howMany ⟨Nat.le_of_ble_eq_true rfl, Nat.le_of_ble_eq_true rfl⟩ (by decide) (cz4 rfl) rfl rfl (As := [.int x1]) (rest := []) rfl (Nat.le_of_ble_eq_true rfl) ⟨Nat.le_of_ble_eq_true rfl, Nat.le_of_ble_eq_true rfl⟩ dX5_count_17 (fun r17 σ17 H locs hq_17 hR hS => ?_)
    obtain ⟨rfl, rfl⟩ := hq_17
    obtain rfl := Option.some.inj hf
    exact x_iret C hR hS dX5_count_20 ⟨rfl, rfl⟩
  · replace hf := (if_pos c_7).symm.trans hf
    refine lv_aload_n hx hb dX5_count_10 rfl (lv_at hl 0 rfl) ?_
    obtain ⟨r11_, σ11_, hc_11, hf⟩ := bd_some hf
    refine x_cvI C hl.1 hR hS (c_X5_refusedBad l G σ4 _ hc_11) gX5_count_X5_refusedBad rfl hdV_X5_refusedBad ⟨Nat.le_of_ble_eq_true rfl, Nat.le_of_ble_eq_true rfl⟩ (by decide) (cz4 rfl) rfl rfl (As := []) (rest := []) rfl (Nat.le_of_ble_eq_true rfl) ⟨Nat.le_of_ble_eq_true rfl, Nat.le_of_ble_eq_true rfl⟩ dX5_count_11 (fun r11 σ11 H locs hq_11 hR hS => ?_)
    obtain ⟨rfl, rfl⟩ := hq_11
    obtain rfl := Option.some.inj hf
    exact x_iret C hR hS dX5_count_14 ⟨rfl, rfl⟩
theorem hdV_X5_digest : yX5_digest.cls = RX5 ∧ yX5_digest.cls ≠ "java/lang/invoke/MethodHandle" ∧ yX5_digest.cls ≠ "java/lang/invoke/VarHandle" ∧ (parseMethodDescriptor yX5_digest.desc).map (fun d => d.parameters.length) = some 0 := by decide +kernel
def f_X5_digest_106 : Nat → Int64 → Int32 → St → Option (Int64 × St)
  | 0, _, _, _ => none
  | n + 1, x1, x3, σ => (if (sI σ 1 5) ≤ x3 then some ((31 * ((31 * x1) + (sL σ 0 8))) + (sL σ 0 9), σ) else bd (f_X2_get 7 x3 σ) (fun r130 σ130 => bd (f_X2_get 9 x3 σ130) (fun r149 σ149 => (f_X5_digest_106 n) ((31 * ((31 * x1) + r130.toInt64)) + r149.toInt64) (x3 + 1) σ149)))
def f_X5_digest_33 : Nat → Int64 → Int32 → St → Option (Int64 × St)
  | 0, _, _, _ => none
  | n + 1, x1, x3, σ => (if (sI σ 1 0) ≤ x3 then f_X5_digest_106 FU x1 0 σ else bd (f_X2_get 3 x3 σ) (fun r57 σ57 => bd (f_X0_standsOf_1 x3 σ57) (fun r73 σ73 => bd (f_X2_get 5 x3 σ73) (fun r92 σ92 => (f_X5_digest_33 n) ((31 * ((31 * ((31 * x1) + r57.toInt64)) + r73.toInt64)) + r92.toInt64) (x3 + 1) σ92))))
def f_X5_digest_6 : Nat → Int64 → Int32 → St → Option (Int64 × St)
  | 0, _, _, _ => none
  | n + 1, x1, x3, σ => (if 6 < x3 then f_X5_digest_33 FU x1 0 σ else bd (f_X5_howMany x3 σ) (fun r19 σ19 => (f_X5_digest_6 n) ((31 * x1) + r19.toInt64) (x3 + 1) σ19))
def f_X5_digest (σ : St) : Option (Int64 × St) :=
  f_X5_digest_6 FU 953 0 σ
set_option maxHeartbeats 4000000 in
set_option maxRecDepth 100000 in
theorem w_X5_digest_106 {p : Program} {l : Launch} {e : Env} {s : State} {m : MethodId} {args : Array Value} {below : List Frame} {meth : Method} {c : Code} {G : GG} (C : Cx p s m args meth c cX5_digest RX5 wsX5_digest (some .long) 4 G) {res : Int64 × St} : ∀ (n : Nat) (x1 : Int64) (x3 : Int32) (σ : St), f_X5_digest_106 n x1 x3 σ = some res → WC p l e 1 s m args below meth c G (QL G res) 4 106 [(0, .ref (G.2.1 0)), (1, .long x1), (3, .int x3)] [] σ := by
  have hx := C.1
  have hb := C.2.1
  have inX5 : ∀ w ∈ u_ws RX5 TX5 13, w ∈ wsX5_digest := fun w h => List.mem_cons_of_mem _ (List.mem_append_left _ (List.mem_append_left _ (List.mem_append_left _ (List.mem_append_right _ h))))
  have inX0 : ∀ w ∈ u_ws RX0 TX0 14, w ∈ wsX5_digest := fun w h => List.mem_cons_of_mem _ (List.mem_append_left _ (List.mem_append_left _ (List.mem_append_right _ h)))
  intro n
  induction n with
  | zero => intro x1 x3 σ hf; cases hf
  | succ n hrc106 =>
    intro x1 x3 σ hf _ _ _ hR hS hl
    unfold f_X5_digest_106 at hf
    refine lv_iload_n hx hb dX5_digest_106 rfl (lv_at hl 2 rfl) ?_
    refine lv_aload_n hx hb dX5_digest_107 rfl (lv_at hl 0 rfl) ?_
    refine x_get C hR inX5 0 (by decide) (cz4 rfl) rfl 0 (by decide) 3 rfl (.ref (G.2.1 1)) rfl dX5_digest_108 ?_
    refine x_get C hR inX0 1 (by decide) (cz0 rfl) rfl 5 (by decide) 7 rfl (.int (sI σ 1 5)) rfl dX5_digest_111 ?_
    refine lv_icmp_ge (tgt := 161) hx hb dX5_digest_114 (by decide) (fun c_114 => ?_) (fun c_114 => ?_)
    · replace hf := (if_pos c_114).symm.trans hf
      refine lv_ldc2 (v := 31) hx hb C.2.2.2.2.1 (C.2.2.2.2.2.1 _ (List.mem_of_getElem? (i := 2) rfl)) dX5_digest_161 ?_
      refine lv_lload_n hx hb dX5_digest_164 rfl (lv_at hl 1 rfl) ?_
      refine lv_lmul hx hb dX5_digest_165 ?_
      refine lv_aload_n hx hb dX5_digest_166 rfl (lv_at hl 0 rfl) ?_
      refine x_get C hR inX5 0 (by decide) (cz4 rfl) rfl 8 (by decide) 10 rfl (.long (sL σ 0 8)) rfl dX5_digest_167 ?_
      refine lv_ladd hx hb dX5_digest_170 ?_
      refine lv_lstore_n (lv' := [(1, .long ((31 * x1) + (sL σ 0 8))), (0, .ref (G.2.1 0)), (3, .int x3)]) hx hb dX5_digest_171 rfl hl (by decide) rfl (fun ls hl => ?_)
      refine lv_ldc2 (v := 31) hx hb C.2.2.2.2.1 (C.2.2.2.2.2.1 _ (List.mem_of_getElem? (i := 2) rfl)) dX5_digest_172 ?_
      refine lv_lload_n hx hb dX5_digest_175 rfl (lv_at hl 0 rfl) ?_
      refine lv_lmul hx hb dX5_digest_176 ?_
      refine lv_aload_n hx hb dX5_digest_177 rfl (lv_at hl 1 rfl) ?_
      refine x_get C hR inX5 0 (by decide) (cz4 rfl) rfl 9 (by decide) 11 rfl (.long (sL σ 0 9)) rfl dX5_digest_178 ?_
      refine lv_ladd hx hb dX5_digest_181 ?_
      obtain rfl := Option.some.inj hf
      exact x_lret C hR hS dX5_digest_182 ⟨rfl, rfl⟩
    · replace hf := (if_neg c_114).symm.trans hf
      refine lv_ldc2 (v := 31) hx hb C.2.2.2.2.1 (C.2.2.2.2.2.1 _ (List.mem_of_getElem? (i := 2) rfl)) dX5_digest_117 ?_
      refine lv_lload_n hx hb dX5_digest_120 rfl (lv_at hl 1 rfl) ?_
      refine lv_lmul hx hb dX5_digest_121 ?_
      refine lv_aload_n hx hb dX5_digest_122 rfl (lv_at hl 0 rfl) ?_
      refine x_get C hR inX5 0 (by decide) (cz4 rfl) rfl 0 (by decide) 3 rfl (.ref (G.2.1 1)) rfl dX5_digest_123 ?_
      refine x_get C hR inX0 1 (by decide) (cz0 rfl) rfl 9 (by decide) 8 rfl (.ref (G.2.1 6)) rfl dX5_digest_126 ?_
      refine lv_iload_n hx hb dX5_digest_129 rfl (lv_at hl 2 rfl) ?_
      obtain ⟨r130_, σ130_, hc_130, hf⟩ := bd_some hf
      refine x_cvI C hl.1 hR hS (c_X2_get l G 7 6 rfl rfl rfl x3 σ _ hc_130) gX5_digest_X2_get rfl hdV_X2_get ⟨Nat.le_of_ble_eq_true rfl, Nat.le_of_ble_eq_true rfl⟩ (by decide) (cz1 rfl) rfl rfl (As := [.int x3]) (rest := [.long (31 * x1)]) rfl (Nat.le_of_ble_eq_true rfl) ⟨Nat.le_of_ble_eq_true rfl, Nat.le_of_ble_eq_true rfl⟩ dX5_digest_130 (fun r130 σ130 H locs hq_130 hR hS => ?_)
      obtain ⟨rfl, rfl⟩ := hq_130
      refine lv_i2l (v := r130.toInt64) hx hb dX5_digest_133 rfl ?_
      refine lv_ladd hx hb dX5_digest_134 ?_
      refine lv_lstore_n (lv' := [(1, .long ((31 * x1) + r130.toInt64)), (0, .ref (G.2.1 0)), (3, .int x3)]) hx hb dX5_digest_135 rfl hl (by decide) rfl (fun ls hl => ?_)
      refine lv_ldc2 (v := 31) hx hb C.2.2.2.2.1 (C.2.2.2.2.2.1 _ (List.mem_of_getElem? (i := 2) rfl)) dX5_digest_136 ?_
      refine lv_lload_n hx hb dX5_digest_139 rfl (lv_at hl 0 rfl) ?_
      refine lv_lmul hx hb dX5_digest_140 ?_
      refine lv_aload_n hx hb dX5_digest_141 rfl (lv_at hl 1 rfl) ?_
      refine x_get C hR inX5 0 (by decide) (cz4 rfl) rfl 0 (by decide) 3 rfl (.ref (G.2.1 1)) rfl dX5_digest_142 ?_
      refine x_get C hR inX0 1 (by decide) (cz0 rfl) rfl 10 (by decide) 9 rfl (.ref (G.2.1 8)) rfl dX5_digest_145 ?_
      refine lv_iload_n hx hb dX5_digest_148 rfl (lv_at hl 2 rfl) ?_
      obtain ⟨r149_, σ149_, hc_149, hf⟩ := bd_some hf
      refine x_cvI C hl.1 hR hS (c_X2_get l G 9 8 rfl rfl rfl x3 σ130 _ hc_149) gX5_digest_X2_get rfl hdV_X2_get ⟨Nat.le_of_ble_eq_true rfl, Nat.le_of_ble_eq_true rfl⟩ (by decide) (cz1 rfl) rfl rfl (As := [.int x3]) (rest := [.long (31 * ((31 * x1) + r130.toInt64))]) rfl (Nat.le_of_ble_eq_true rfl) ⟨Nat.le_of_ble_eq_true rfl, Nat.le_of_ble_eq_true rfl⟩ dX5_digest_149 (fun r149 σ149 H locs hq_149 hR hS => ?_)
      obtain ⟨rfl, rfl⟩ := hq_149
      refine lv_i2l (v := r149.toInt64) hx hb dX5_digest_152 rfl ?_
      refine lv_ladd hx hb dX5_digest_153 ?_
      refine lv_lstore_n (lv' := [(1, .long ((31 * ((31 * x1) + r130.toInt64)) + r149.toInt64)), (0, .ref (G.2.1 0)), (3, .int x3)]) hx hb dX5_digest_154 rfl hl (by decide) rfl (fun ls hl => ?_)
      refine lv_iinc (v := x3 + 1) (lv' := [(3, .int (x3 + 1)), (1, .long ((31 * ((31 * x1) + r130.toInt64)) + r149.toInt64)), (0, .ref (G.2.1 0))]) hx hb dX5_digest_155 hl (k := 2) rfl rfl (by decide) rfl (fun ls hl => ?_)
      refine lv_goto (tgt := 106) hx hb dX5_digest_158 (by decide) ?_
      exact hrc106 ((31 * ((31 * x1) + r130.toInt64)) + r149.toInt64) (x3 + 1) _ hf _ _ _ hR hS (lv_sub hl [2, 1, 0] rfl)
set_option maxHeartbeats 4000000 in
set_option maxRecDepth 100000 in
theorem w_X5_digest_33 {p : Program} {l : Launch} {e : Env} {s : State} {m : MethodId} {args : Array Value} {below : List Frame} {meth : Method} {c : Code} {G : GG} (C : Cx p s m args meth c cX5_digest RX5 wsX5_digest (some .long) 4 G) {res : Int64 × St} : ∀ (n : Nat) (x1 : Int64) (x3 : Int32) (σ : St), f_X5_digest_33 n x1 x3 σ = some res → WC p l e 1 s m args below meth c G (QL G res) 4 33 [(0, .ref (G.2.1 0)), (1, .long x1), (3, .int x3)] [] σ := by
  have hx := C.1
  have hb := C.2.1
  have inX5 : ∀ w ∈ u_ws RX5 TX5 13, w ∈ wsX5_digest := fun w h => List.mem_cons_of_mem _ (List.mem_append_left _ (List.mem_append_left _ (List.mem_append_left _ (List.mem_append_right _ h))))
  have inX0 : ∀ w ∈ u_ws RX0 TX0 14, w ∈ wsX5_digest := fun w h => List.mem_cons_of_mem _ (List.mem_append_left _ (List.mem_append_left _ (List.mem_append_right _ h)))
  intro n
  induction n with
  | zero => intro x1 x3 σ hf; cases hf
  | succ n hrc33 =>
    intro x1 x3 σ hf _ _ _ hR hS hl
    unfold f_X5_digest_33 at hf
    refine lv_iload_n hx hb dX5_digest_33 rfl (lv_at hl 2 rfl) ?_
    refine lv_aload_n hx hb dX5_digest_34 rfl (lv_at hl 0 rfl) ?_
    refine x_get C hR inX5 0 (by decide) (cz4 rfl) rfl 0 (by decide) 3 rfl (.ref (G.2.1 1)) rfl dX5_digest_35 ?_
    refine x_get C hR inX0 1 (by decide) (cz0 rfl) rfl 0 (by decide) 4 rfl (.int (sI σ 1 0)) rfl dX5_digest_38 ?_
    refine lv_icmp_ge (tgt := 104) hx hb dX5_digest_41 (by decide) (fun c_41 => ?_) (fun c_41 => ?_)
    · replace hf := (if_pos c_41).symm.trans hf
      refine lv_iconst (v := 0) hx hb dX5_digest_104 (by decide) ?_
      refine lv_istore_n (lv' := [(3, .int 0), (0, .ref (G.2.1 0)), (1, .long x1)]) hx hb dX5_digest_105 rfl hl (by decide) rfl (fun ls hl => ?_)
      exact w_X5_digest_106 C  FU x1 0 _ hf _ _ _ hR hS (lv_sub hl [1, 2, 0] rfl)
    · replace hf := (if_neg c_41).symm.trans hf
      refine lv_ldc2 (v := 31) hx hb C.2.2.2.2.1 (C.2.2.2.2.2.1 _ (List.mem_of_getElem? (i := 2) rfl)) dX5_digest_44 ?_
      refine lv_lload_n hx hb dX5_digest_47 rfl (lv_at hl 1 rfl) ?_
      refine lv_lmul hx hb dX5_digest_48 ?_
      refine lv_aload_n hx hb dX5_digest_49 rfl (lv_at hl 0 rfl) ?_
      refine x_get C hR inX5 0 (by decide) (cz4 rfl) rfl 0 (by decide) 3 rfl (.ref (G.2.1 1)) rfl dX5_digest_50 ?_
      refine x_get C hR inX0 1 (by decide) (cz0 rfl) rfl 7 (by decide) 5 rfl (.ref (G.2.1 2)) rfl dX5_digest_53 ?_
      refine lv_iload_n hx hb dX5_digest_56 rfl (lv_at hl 2 rfl) ?_
      obtain ⟨r57_, σ57_, hc_57, hf⟩ := bd_some hf
      refine x_cvI C hl.1 hR hS (c_X2_get l G 3 2 rfl rfl rfl x3 σ _ hc_57) gX5_digest_X2_get rfl hdV_X2_get ⟨Nat.le_of_ble_eq_true rfl, Nat.le_of_ble_eq_true rfl⟩ (by decide) (cz1 rfl) rfl rfl (As := [.int x3]) (rest := [.long (31 * x1)]) rfl (Nat.le_of_ble_eq_true rfl) ⟨Nat.le_of_ble_eq_true rfl, Nat.le_of_ble_eq_true rfl⟩ dX5_digest_57 (fun r57 σ57 H locs hq_57 hR hS => ?_)
      obtain ⟨rfl, rfl⟩ := hq_57
      refine lv_i2l (v := r57.toInt64) hx hb dX5_digest_60 rfl ?_
      refine lv_ladd hx hb dX5_digest_61 ?_
      refine lv_lstore_n (lv' := [(1, .long ((31 * x1) + r57.toInt64)), (0, .ref (G.2.1 0)), (3, .int x3)]) hx hb dX5_digest_62 rfl hl (by decide) rfl (fun ls hl => ?_)
      refine lv_ldc2 (v := 31) hx hb C.2.2.2.2.1 (C.2.2.2.2.2.1 _ (List.mem_of_getElem? (i := 2) rfl)) dX5_digest_63 ?_
      refine lv_lload_n hx hb dX5_digest_66 rfl (lv_at hl 0 rfl) ?_
      refine lv_lmul hx hb dX5_digest_67 ?_
      refine lv_aload_n hx hb dX5_digest_68 rfl (lv_at hl 1 rfl) ?_
      refine x_get C hR inX5 0 (by decide) (cz4 rfl) rfl 0 (by decide) 3 rfl (.ref (G.2.1 1)) rfl dX5_digest_69 ?_
      refine lv_iload_n hx hb dX5_digest_72 rfl (lv_at hl 2 rfl) ?_
      obtain ⟨r73_, σ73_, hc_73, hf⟩ := bd_some hf
      refine x_cvI C hl.1 hR hS (c_X0_standsOf_1 l G x3 σ57 _ hc_73) gX5_digest_X0_standsOf rfl hdV_X0_standsOf ⟨Nat.le_of_ble_eq_true rfl, Nat.le_of_ble_eq_true rfl⟩ (by decide) (cz0 rfl) rfl rfl (As := [.int x3]) (rest := [.long (31 * ((31 * x1) + r57.toInt64))]) rfl (Nat.le_of_ble_eq_true rfl) ⟨Nat.le_of_ble_eq_true rfl, Nat.le_of_ble_eq_true rfl⟩ dX5_digest_73 (fun r73 σ73 H locs hq_73 hR hS => ?_)
      obtain ⟨rfl, rfl⟩ := hq_73
      refine lv_i2l (v := r73.toInt64) hx hb dX5_digest_76 rfl ?_
      refine lv_ladd hx hb dX5_digest_77 ?_
      refine lv_lstore_n (lv' := [(1, .long ((31 * ((31 * x1) + r57.toInt64)) + r73.toInt64)), (0, .ref (G.2.1 0)), (3, .int x3)]) hx hb dX5_digest_78 rfl hl (by decide) rfl (fun ls hl => ?_)
      refine lv_ldc2 (v := 31) hx hb C.2.2.2.2.1 (C.2.2.2.2.2.1 _ (List.mem_of_getElem? (i := 2) rfl)) dX5_digest_79 ?_
      refine lv_lload_n hx hb dX5_digest_82 rfl (lv_at hl 0 rfl) ?_
      refine lv_lmul hx hb dX5_digest_83 ?_
      refine lv_aload_n hx hb dX5_digest_84 rfl (lv_at hl 1 rfl) ?_
      refine x_get C hR inX5 0 (by decide) (cz4 rfl) rfl 0 (by decide) 3 rfl (.ref (G.2.1 1)) rfl dX5_digest_85 ?_
      refine x_get C hR inX0 1 (by decide) (cz0 rfl) rfl 8 (by decide) 6 rfl (.ref (G.2.1 4)) rfl dX5_digest_88 ?_
      refine lv_iload_n hx hb dX5_digest_91 rfl (lv_at hl 2 rfl) ?_
      obtain ⟨r92_, σ92_, hc_92, hf⟩ := bd_some hf
      refine x_cvI C hl.1 hR hS (c_X2_get l G 5 4 rfl rfl rfl x3 σ73 _ hc_92) gX5_digest_X2_get rfl hdV_X2_get ⟨Nat.le_of_ble_eq_true rfl, Nat.le_of_ble_eq_true rfl⟩ (by decide) (cz1 rfl) rfl rfl (As := [.int x3]) (rest := [.long (31 * ((31 * ((31 * x1) + r57.toInt64)) + r73.toInt64))]) rfl (Nat.le_of_ble_eq_true rfl) ⟨Nat.le_of_ble_eq_true rfl, Nat.le_of_ble_eq_true rfl⟩ dX5_digest_92 (fun r92 σ92 H locs hq_92 hR hS => ?_)
      obtain ⟨rfl, rfl⟩ := hq_92
      refine lv_i2l (v := r92.toInt64) hx hb dX5_digest_95 rfl ?_
      refine lv_ladd hx hb dX5_digest_96 ?_
      refine lv_lstore_n (lv' := [(1, .long ((31 * ((31 * ((31 * x1) + r57.toInt64)) + r73.toInt64)) + r92.toInt64)), (0, .ref (G.2.1 0)), (3, .int x3)]) hx hb dX5_digest_97 rfl hl (by decide) rfl (fun ls hl => ?_)
      refine lv_iinc (v := x3 + 1) (lv' := [(3, .int (x3 + 1)), (1, .long ((31 * ((31 * ((31 * x1) + r57.toInt64)) + r73.toInt64)) + r92.toInt64)), (0, .ref (G.2.1 0))]) hx hb dX5_digest_98 hl (k := 2) rfl rfl (by decide) rfl (fun ls hl => ?_)
      refine lv_goto (tgt := 33) hx hb dX5_digest_101 (by decide) ?_
      exact hrc33 ((31 * ((31 * ((31 * x1) + r57.toInt64)) + r73.toInt64)) + r92.toInt64) (x3 + 1) _ hf _ _ _ hR hS (lv_sub hl [2, 1, 0] rfl)
set_option maxHeartbeats 4000000 in
set_option maxRecDepth 100000 in
theorem w_X5_digest_6 {p : Program} {l : Launch} {e : Env} {s : State} {m : MethodId} {args : Array Value} {below : List Frame} {meth : Method} {c : Code} {G : GG} (C : Cx p s m args meth c cX5_digest RX5 wsX5_digest (some .long) 4 G) {res : Int64 × St} : ∀ (n : Nat) (x1 : Int64) (x3 : Int32) (σ : St), f_X5_digest_6 n x1 x3 σ = some res → WC p l e 1 s m args below meth c G (QL G res) 4 6 [(0, .ref (G.2.1 0)), (1, .long x1), (3, .int x3)] [] σ := by
  have hx := C.1
  have hb := C.2.1
  have inX5 : ∀ w ∈ u_ws RX5 TX5 13, w ∈ wsX5_digest := fun w h => List.mem_cons_of_mem _ (List.mem_append_left _ (List.mem_append_left _ (List.mem_append_left _ (List.mem_append_right _ h))))
  have inX0 : ∀ w ∈ u_ws RX0 TX0 14, w ∈ wsX5_digest := fun w h => List.mem_cons_of_mem _ (List.mem_append_left _ (List.mem_append_left _ (List.mem_append_right _ h)))
  intro n
  induction n with
  | zero => intro x1 x3 σ hf; cases hf
  | succ n hrc6 =>
    intro x1 x3 σ hf _ _ _ hR hS hl
    unfold f_X5_digest_6 at hf
    refine lv_iload_n hx hb dX5_digest_6 rfl (lv_at hl 2 rfl) ?_
    refine lv_bipush (v := 6) hx hb dX5_digest_7 (by decide) ?_
    refine lv_icmp_gt (tgt := 31) hx hb dX5_digest_9 (by decide) (fun c_9 => ?_) (fun c_9 => ?_)
    · replace hf := (if_pos c_9).symm.trans hf
      refine lv_iconst (v := 0) hx hb dX5_digest_31 (by decide) ?_
      refine lv_istore_n (lv' := [(3, .int 0), (0, .ref (G.2.1 0)), (1, .long x1)]) hx hb dX5_digest_32 rfl hl (by decide) rfl (fun ls hl => ?_)
      exact w_X5_digest_33 C  FU x1 0 _ hf _ _ _ hR hS (lv_sub hl [1, 2, 0] rfl)
    · replace hf := (if_neg c_9).symm.trans hf
      refine lv_ldc2 (v := 31) hx hb C.2.2.2.2.1 (C.2.2.2.2.2.1 _ (List.mem_of_getElem? (i := 2) rfl)) dX5_digest_12 ?_
      refine lv_lload_n hx hb dX5_digest_15 rfl (lv_at hl 1 rfl) ?_
      refine lv_lmul hx hb dX5_digest_16 ?_
      refine lv_aload_n hx hb dX5_digest_17 rfl (lv_at hl 0 rfl) ?_
      refine lv_iload_n hx hb dX5_digest_18 rfl (lv_at hl 2 rfl) ?_
      obtain ⟨r19_, σ19_, hc_19, hf⟩ := bd_some hf
      refine x_cvI C hl.1 hR hS (c_X5_howMany l G x3 σ _ hc_19) gX5_digest_X5_howMany rfl hdV_X5_howMany ⟨Nat.le_of_ble_eq_true rfl, Nat.le_of_ble_eq_true rfl⟩ (by decide) (cz4 rfl) rfl rfl (As := [.int x3]) (rest := [.long (31 * x1)]) rfl (Nat.le_of_ble_eq_true rfl) ⟨Nat.le_of_ble_eq_true rfl, Nat.le_of_ble_eq_true rfl⟩ dX5_digest_19 (fun r19 σ19 H locs hq_19 hR hS => ?_)
      obtain ⟨rfl, rfl⟩ := hq_19
      refine lv_i2l (v := r19.toInt64) hx hb dX5_digest_22 rfl ?_
      refine lv_ladd hx hb dX5_digest_23 ?_
      refine lv_lstore_n (lv' := [(1, .long ((31 * x1) + r19.toInt64)), (0, .ref (G.2.1 0)), (3, .int x3)]) hx hb dX5_digest_24 rfl hl (by decide) rfl (fun ls hl => ?_)
      refine lv_iinc (v := x3 + 1) (lv' := [(3, .int (x3 + 1)), (1, .long ((31 * x1) + r19.toInt64)), (0, .ref (G.2.1 0))]) hx hb dX5_digest_25 hl (k := 2) rfl rfl (by decide) rfl (fun ls hl => ?_)
      refine lv_goto (tgt := 6) hx hb dX5_digest_28 (by decide) ?_
      exact hrc6 ((31 * x1) + r19.toInt64) (x3 + 1) _ hf _ _ _ hR hS (lv_sub hl [2, 1, 0] rfl)
set_option maxHeartbeats 4000000 in
set_option maxRecDepth 100000 in
theorem c_X5_digest (l : Launch) (G : GG) (σ : St) (res : Int64 × St) (hf : f_X5_digest σ = some res) : CL l yX5_digest wsX5_digest 1 [.ref (G.2.1 0)] G σ (fun r u => r = res.1 ∧ u = res.2) := by
  refine x_ent (ret := (some .long)) cX5_digest 4 (by decide) rfl (Nat.le_of_ble_eq_true rfl) ?_
  intro p e s m below meth c ls C hR hS hl
  have C : Cx p s m [.ref (G.2.1 0)].toArray meth c cX5_digest RX5 wsX5_digest (some .long) 4 G := C
  have hx := C.1
  have hb := C.2.1
  have hl : lv_has ls 4 [(0, .ref (G.2.1 0))] := hl
  have inX5 : ∀ w ∈ u_ws RX5 TX5 13, w ∈ wsX5_digest := fun w h => List.mem_cons_of_mem _ (List.mem_append_left _ (List.mem_append_left _ (List.mem_append_left _ (List.mem_append_right _ h))))
  have inX0 : ∀ w ∈ u_ws RX0 TX0 14, w ∈ wsX5_digest := fun w h => List.mem_cons_of_mem _ (List.mem_append_left _ (List.mem_append_left _ (List.mem_append_right _ h)))
  unfold f_X5_digest at hf
  refine lv_ldc2 (v := 953) hx hb C.2.2.2.2.1 (C.2.2.2.2.2.1 _ (List.mem_of_getElem? (i := 1) rfl)) dX5_digest_0 ?_
  refine lv_lstore_n (lv' := [(1, .long 953), (0, .ref (G.2.1 0))]) hx hb dX5_digest_3 rfl hl (by decide) rfl (fun ls hl => ?_)
  refine lv_iconst (v := 0) hx hb dX5_digest_4 (by decide) ?_
  refine lv_istore_n (lv' := [(3, .int 0), (1, .long 953), (0, .ref (G.2.1 0))]) hx hb dX5_digest_5 rfl hl (by decide) rfl (fun ls hl => ?_)
  exact w_X5_digest_6 C  FU 953 0 _ hf _ _ _ hR hS (lv_sub hl [2, 1, 0] rfl)
