theorem hdV_X0_reset : yX0_reset.cls = RX0 ∧ yX0_reset.cls ≠ "java/lang/invoke/MethodHandle" ∧ yX0_reset.cls ≠ "java/lang/invoke/VarHandle" ∧ (parseMethodDescriptor yX0_reset.desc).map (fun d => d.parameters.length) = some 1 := by decide +kernel
def f_X0_reset_1 (x1 : Int32) (σ : St) : Option (St) :=
  some (pI (pI (pI (pI (pI (pI (pI σ 1 0 0) 1 1 x1) 1 2 0) 1 3 0) 1 4 0) 1 5 0) 1 6 0)
set_option maxHeartbeats 4000000 in
set_option maxRecDepth 100000 in
theorem c_X0_reset_1 (l : Launch) (G : GG) (x1 : Int32) (σ : St) (res : St) (hf : f_X0_reset_1 x1 σ = some res) : CV l yX0_reset wsX0_reset 0 [.ref (G.2.1 1), .int x1] G σ (fun u => u = res) := by
  refine x_ent (ret := none) cX0_reset 2 (by decide) rfl (Nat.le_of_ble_eq_true rfl) ?_
  intro p e s m below meth c ls C hR hS hl
  have C : Cx p s m [.ref (G.2.1 1), .int x1].toArray meth c cX0_reset RX0 wsX0_reset none 2 G := C
  have hx := C.1
  have hb := C.2.1
  have hl : lv_has ls 2 [(0, .ref (G.2.1 1)), (1, .int x1)] := hl
  have inX0 : ∀ w ∈ u_ws RX0 TX0 14, w ∈ wsX0_reset := fun w h => List.mem_cons_of_mem _ (List.mem_append_right _ h)
  unfold f_X0_reset_1 at hf
  refine lv_aload_n hx hb dX0_reset_0 rfl (lv_at hl 0 rfl) ?_
  refine lv_iconst (v := 0) hx hb dX0_reset_1 (by decide) ?_
  refine x_put (τ := (pI σ 1 0 0)) C hR hS inX0 tyX0 tyX0_ok nmX0 1 (by decide) (cz0 rfl) rfl 0 (by decide) (pfI0_0 rfl) pI_o 1 rfl rfl rfl rfl (Nat.le_of_ble_eq_true rfl) dX0_reset_2 (fun H locs hR hS => ?_)
  refine lv_aload_n hx hb dX0_reset_5 rfl (lv_at hl 0 rfl) ?_
  refine lv_iload_n hx hb dX0_reset_6 rfl (lv_at hl 1 rfl) ?_
  refine x_put (τ := (pI (pI σ 1 0 0) 1 1 x1)) C hR hS inX0 tyX0 tyX0_ok nmX0 1 (by decide) (cz0 rfl) rfl 1 (by decide) (pfI0_1 rfl) pI_o 2 rfl rfl rfl rfl (Nat.le_of_ble_eq_true rfl) dX0_reset_7 (fun H locs hR hS => ?_)
  refine lv_aload_n hx hb dX0_reset_10 rfl (lv_at hl 0 rfl) ?_
  refine lv_iconst (v := 0) hx hb dX0_reset_11 (by decide) ?_
  refine x_put (τ := (pI (pI (pI σ 1 0 0) 1 1 x1) 1 2 0)) C hR hS inX0 tyX0 tyX0_ok nmX0 1 (by decide) (cz0 rfl) rfl 2 (by decide) (pfI0_2 rfl) pI_o 3 rfl rfl rfl rfl (Nat.le_of_ble_eq_true rfl) dX0_reset_12 (fun H locs hR hS => ?_)
  refine lv_aload_n hx hb dX0_reset_15 rfl (lv_at hl 0 rfl) ?_
  refine lv_iconst (v := 0) hx hb dX0_reset_16 (by decide) ?_
  refine x_put (τ := (pI (pI (pI (pI σ 1 0 0) 1 1 x1) 1 2 0) 1 3 0)) C hR hS inX0 tyX0 tyX0_ok nmX0 1 (by decide) (cz0 rfl) rfl 3 (by decide) (pfI0_3 rfl) pI_o 4 rfl rfl rfl rfl (Nat.le_of_ble_eq_true rfl) dX0_reset_17 (fun H locs hR hS => ?_)
  refine lv_aload_n hx hb dX0_reset_20 rfl (lv_at hl 0 rfl) ?_
  refine lv_iconst (v := 0) hx hb dX0_reset_21 (by decide) ?_
  refine x_put (τ := (pI (pI (pI (pI (pI σ 1 0 0) 1 1 x1) 1 2 0) 1 3 0) 1 4 0)) C hR hS inX0 tyX0 tyX0_ok nmX0 1 (by decide) (cz0 rfl) rfl 4 (by decide) (pfI0_4 rfl) pI_o 5 rfl rfl rfl rfl (Nat.le_of_ble_eq_true rfl) dX0_reset_22 (fun H locs hR hS => ?_)
  refine lv_aload_n hx hb dX0_reset_25 rfl (lv_at hl 0 rfl) ?_
  refine lv_iconst (v := 0) hx hb dX0_reset_26 (by decide) ?_
  refine x_put (τ := (pI (pI (pI (pI (pI (pI σ 1 0 0) 1 1 x1) 1 2 0) 1 3 0) 1 4 0) 1 5 0)) C hR hS inX0 tyX0 tyX0_ok nmX0 1 (by decide) (cz0 rfl) rfl 5 (by decide) (pfI0_5 rfl) pI_o 6 rfl rfl rfl rfl (Nat.le_of_ble_eq_true rfl) dX0_reset_27 (fun H locs hR hS => ?_)
  refine lv_aload_n hx hb dX0_reset_30 rfl (lv_at hl 0 rfl) ?_
  refine lv_iconst (v := 0) hx hb dX0_reset_31 (by decide) ?_
  refine x_put (τ := (pI (pI (pI (pI (pI (pI (pI σ 1 0 0) 1 1 x1) 1 2 0) 1 3 0) 1 4 0) 1 5 0) 1 6 0)) C hR hS inX0 tyX0 tyX0_ok nmX0 1 (by decide) (cz0 rfl) rfl 6 (by decide) (pfI0_6 rfl) pI_o 7 rfl rfl rfl rfl (Nat.le_of_ble_eq_true rfl) dX0_reset_32 (fun H locs hR hS => ?_)
  obtain rfl := Option.some.inj hf
  exact x_vret C hR hS dX0_reset_35 rfl
def f_X0_reset_46 (x1 : Int32) (σ : St) : Option (St) :=
  some (pI (pI (pI (pI (pI (pI (pI σ 46 0 0) 46 1 x1) 46 2 0) 46 3 0) 46 4 0) 46 5 0) 46 6 0)
set_option maxHeartbeats 4000000 in
set_option maxRecDepth 100000 in
theorem c_X0_reset_46 (l : Launch) (G : GG) (x1 : Int32) (σ : St) (res : St) (hf : f_X0_reset_46 x1 σ = some res) : CV l yX0_reset wsX0_reset 0 [.ref (G.2.1 46), .int x1] G σ (fun u => u = res) := by
  refine x_ent (ret := none) cX0_reset 2 (by decide) rfl (Nat.le_of_ble_eq_true rfl) ?_
  intro p e s m below meth c ls C hR hS hl
  have C : Cx p s m [.ref (G.2.1 46), .int x1].toArray meth c cX0_reset RX0 wsX0_reset none 2 G := C
  have hx := C.1
  have hb := C.2.1
  have hl : lv_has ls 2 [(0, .ref (G.2.1 46)), (1, .int x1)] := hl
  have inX0 : ∀ w ∈ u_ws RX0 TX0 14, w ∈ wsX0_reset := fun w h => List.mem_cons_of_mem _ (List.mem_append_right _ h)
  unfold f_X0_reset_46 at hf
  refine lv_aload_n hx hb dX0_reset_0 rfl (lv_at hl 0 rfl) ?_
  refine lv_iconst (v := 0) hx hb dX0_reset_1 (by decide) ?_
  refine x_put (τ := (pI σ 46 0 0)) C hR hS inX0 tyX0 tyX0_ok nmX0 46 (by decide) (cz0 rfl) rfl 0 (by decide) (pfI0_0 rfl) pI_o 1 rfl rfl rfl rfl (Nat.le_of_ble_eq_true rfl) dX0_reset_2 (fun H locs hR hS => ?_)
  refine lv_aload_n hx hb dX0_reset_5 rfl (lv_at hl 0 rfl) ?_
  refine lv_iload_n hx hb dX0_reset_6 rfl (lv_at hl 1 rfl) ?_
  refine x_put (τ := (pI (pI σ 46 0 0) 46 1 x1)) C hR hS inX0 tyX0 tyX0_ok nmX0 46 (by decide) (cz0 rfl) rfl 1 (by decide) (pfI0_1 rfl) pI_o 2 rfl rfl rfl rfl (Nat.le_of_ble_eq_true rfl) dX0_reset_7 (fun H locs hR hS => ?_)
  refine lv_aload_n hx hb dX0_reset_10 rfl (lv_at hl 0 rfl) ?_
  refine lv_iconst (v := 0) hx hb dX0_reset_11 (by decide) ?_
  refine x_put (τ := (pI (pI (pI σ 46 0 0) 46 1 x1) 46 2 0)) C hR hS inX0 tyX0 tyX0_ok nmX0 46 (by decide) (cz0 rfl) rfl 2 (by decide) (pfI0_2 rfl) pI_o 3 rfl rfl rfl rfl (Nat.le_of_ble_eq_true rfl) dX0_reset_12 (fun H locs hR hS => ?_)
  refine lv_aload_n hx hb dX0_reset_15 rfl (lv_at hl 0 rfl) ?_
  refine lv_iconst (v := 0) hx hb dX0_reset_16 (by decide) ?_
  refine x_put (τ := (pI (pI (pI (pI σ 46 0 0) 46 1 x1) 46 2 0) 46 3 0)) C hR hS inX0 tyX0 tyX0_ok nmX0 46 (by decide) (cz0 rfl) rfl 3 (by decide) (pfI0_3 rfl) pI_o 4 rfl rfl rfl rfl (Nat.le_of_ble_eq_true rfl) dX0_reset_17 (fun H locs hR hS => ?_)
  refine lv_aload_n hx hb dX0_reset_20 rfl (lv_at hl 0 rfl) ?_
  refine lv_iconst (v := 0) hx hb dX0_reset_21 (by decide) ?_
  refine x_put (τ := (pI (pI (pI (pI (pI σ 46 0 0) 46 1 x1) 46 2 0) 46 3 0) 46 4 0)) C hR hS inX0 tyX0 tyX0_ok nmX0 46 (by decide) (cz0 rfl) rfl 4 (by decide) (pfI0_4 rfl) pI_o 5 rfl rfl rfl rfl (Nat.le_of_ble_eq_true rfl) dX0_reset_22 (fun H locs hR hS => ?_)
  refine lv_aload_n hx hb dX0_reset_25 rfl (lv_at hl 0 rfl) ?_
  refine lv_iconst (v := 0) hx hb dX0_reset_26 (by decide) ?_
  refine x_put (τ := (pI (pI (pI (pI (pI (pI σ 46 0 0) 46 1 x1) 46 2 0) 46 3 0) 46 4 0) 46 5 0)) C hR hS inX0 tyX0 tyX0_ok nmX0 46 (by decide) (cz0 rfl) rfl 5 (by decide) (pfI0_5 rfl) pI_o 6 rfl rfl rfl rfl (Nat.le_of_ble_eq_true rfl) dX0_reset_27 (fun H locs hR hS => ?_)
  refine lv_aload_n hx hb dX0_reset_30 rfl (lv_at hl 0 rfl) ?_
  refine lv_iconst (v := 0) hx hb dX0_reset_31 (by decide) ?_
  refine x_put (τ := (pI (pI (pI (pI (pI (pI (pI σ 46 0 0) 46 1 x1) 46 2 0) 46 3 0) 46 4 0) 46 5 0) 46 6 0)) C hR hS inX0 tyX0 tyX0_ok nmX0 46 (by decide) (cz0 rfl) rfl 6 (by decide) (pfI0_6 rfl) pI_o 7 rfl rfl rfl rfl (Nat.le_of_ble_eq_true rfl) dX0_reset_32 (fun H locs hR hS => ?_)
  obtain rfl := Option.some.inj hf
  exact x_vret C hR hS dX0_reset_35 rfl
theorem hdV_X0_copyFrom : yX0_copyFrom.cls = RX0 ∧ yX0_copyFrom.cls ≠ "java/lang/invoke/MethodHandle" ∧ yX0_copyFrom.cls ≠ "java/lang/invoke/VarHandle" ∧ (parseMethodDescriptor yX0_copyFrom.desc).map (fun d => d.parameters.length) = some 1 := by decide +kernel
def f_X0_copyFrom_1_46 (σ : St) : Option (St) :=
  bv (f_X2_copyFrom 3 48 (pI (pI (pI (pI (pI (pI (pI σ 1 0 (sI σ 46 0)) 1 1 (sI σ 46 1)) 1 2 (sI σ 46 2)) 1 3 (sI σ 46 3)) 1 4 (sI σ 46 4)) 1 5 (sI σ 46 5)) 1 6 (sI σ 46 6))) (fun σ64 => bv (f_X2_copyFrom 5 50 σ64) (fun σ75 => bv (f_X2_copyFrom 7 52 σ75) (fun σ86 => bv (f_X2_copyFrom 9 54 σ86) (fun σ97 => bv (f_X2_copyFrom 11 56 σ97) (fun σ108 => bv (f_X2_copyFrom 13 58 σ108) (fun σ119 => bv (f_X2_copyFrom 15 60 σ119) (fun σ130 => some σ130)))))))
set_option maxHeartbeats 4000000 in
set_option maxRecDepth 100000 in
theorem c_X0_copyFrom_1_46 (l : Launch) (G : GG) (σ : St) (res : St) (hf : f_X0_copyFrom_1_46 σ = some res) : CV l yX0_copyFrom wsX0_copyFrom 2 [.ref (G.2.1 1), .ref (G.2.1 46)] G σ (fun u => u = res) := by
  refine x_ent (ret := none) cX0_copyFrom 2 (by decide) rfl (Nat.le_of_ble_eq_true rfl) ?_
  intro p e s m below meth c ls C hR hS hl
  have C : Cx p s m [.ref (G.2.1 1), .ref (G.2.1 46)].toArray meth c cX0_copyFrom RX0 wsX0_copyFrom none 2 G := C
  have hx := C.1
  have hb := C.2.1
  have hl : lv_has ls 2 [(0, .ref (G.2.1 1)), (1, .ref (G.2.1 46))] := hl
  have inX0 : ∀ w ∈ u_ws RX0 TX0 14, w ∈ wsX0_copyFrom := fun w h => List.mem_cons_of_mem _ (List.mem_append_left _ (List.mem_append_right _ h))
  unfold f_X0_copyFrom_1_46 at hf
  refine lv_aload_n hx hb dX0_copyFrom_0 rfl (lv_at hl 0 rfl) ?_
  refine lv_aload_n hx hb dX0_copyFrom_1 rfl (lv_at hl 1 rfl) ?_
  refine x_get C hR inX0 46 (by decide) (cz0 rfl) rfl 0 (by decide) 1 rfl (.int (sI σ 46 0)) rfl dX0_copyFrom_2 ?_
  refine x_put (τ := (pI σ 1 0 (sI σ 46 0))) C hR hS inX0 tyX0 tyX0_ok nmX0 1 (by decide) (cz0 rfl) rfl 0 (by decide) (pfI0_0 rfl) pI_o 1 rfl rfl rfl rfl (Nat.le_of_ble_eq_true rfl) dX0_copyFrom_5 (fun H locs hR hS => ?_)
  refine lv_aload_n hx hb dX0_copyFrom_8 rfl (lv_at hl 0 rfl) ?_
  refine lv_aload_n hx hb dX0_copyFrom_9 rfl (lv_at hl 1 rfl) ?_
  refine x_get C hR inX0 46 (by decide) (cz0 rfl) rfl 1 (by decide) 2 rfl (.int (sI σ 46 1)) rfl dX0_copyFrom_10 ?_
  refine x_put (τ := (pI (pI σ 1 0 (sI σ 46 0)) 1 1 (sI σ 46 1))) C hR hS inX0 tyX0 tyX0_ok nmX0 1 (by decide) (cz0 rfl) rfl 1 (by decide) (pfI0_1 rfl) pI_o 2 rfl rfl rfl rfl (Nat.le_of_ble_eq_true rfl) dX0_copyFrom_13 (fun H locs hR hS => ?_)
  refine lv_aload_n hx hb dX0_copyFrom_16 rfl (lv_at hl 0 rfl) ?_
  refine lv_aload_n hx hb dX0_copyFrom_17 rfl (lv_at hl 1 rfl) ?_
  refine x_get C hR inX0 46 (by decide) (cz0 rfl) rfl 2 (by decide) 3 rfl (.int (sI σ 46 2)) rfl dX0_copyFrom_18 ?_
  refine x_put (τ := (pI (pI (pI σ 1 0 (sI σ 46 0)) 1 1 (sI σ 46 1)) 1 2 (sI σ 46 2))) C hR hS inX0 tyX0 tyX0_ok nmX0 1 (by decide) (cz0 rfl) rfl 2 (by decide) (pfI0_2 rfl) pI_o 3 rfl rfl rfl rfl (Nat.le_of_ble_eq_true rfl) dX0_copyFrom_21 (fun H locs hR hS => ?_)
  refine lv_aload_n hx hb dX0_copyFrom_24 rfl (lv_at hl 0 rfl) ?_
  refine lv_aload_n hx hb dX0_copyFrom_25 rfl (lv_at hl 1 rfl) ?_
  refine x_get C hR inX0 46 (by decide) (cz0 rfl) rfl 3 (by decide) 4 rfl (.int (sI σ 46 3)) rfl dX0_copyFrom_26 ?_
  refine x_put (τ := (pI (pI (pI (pI σ 1 0 (sI σ 46 0)) 1 1 (sI σ 46 1)) 1 2 (sI σ 46 2)) 1 3 (sI σ 46 3))) C hR hS inX0 tyX0 tyX0_ok nmX0 1 (by decide) (cz0 rfl) rfl 3 (by decide) (pfI0_3 rfl) pI_o 4 rfl rfl rfl rfl (Nat.le_of_ble_eq_true rfl) dX0_copyFrom_29 (fun H locs hR hS => ?_)
  refine lv_aload_n hx hb dX0_copyFrom_32 rfl (lv_at hl 0 rfl) ?_
  refine lv_aload_n hx hb dX0_copyFrom_33 rfl (lv_at hl 1 rfl) ?_
  refine x_get C hR inX0 46 (by decide) (cz0 rfl) rfl 4 (by decide) 5 rfl (.int (sI σ 46 4)) rfl dX0_copyFrom_34 ?_
  refine x_put (τ := (pI (pI (pI (pI (pI σ 1 0 (sI σ 46 0)) 1 1 (sI σ 46 1)) 1 2 (sI σ 46 2)) 1 3 (sI σ 46 3)) 1 4 (sI σ 46 4))) C hR hS inX0 tyX0 tyX0_ok nmX0 1 (by decide) (cz0 rfl) rfl 4 (by decide) (pfI0_4 rfl) pI_o 5 rfl rfl rfl rfl (Nat.le_of_ble_eq_true rfl) dX0_copyFrom_37 (fun H locs hR hS => ?_)
  refine lv_aload_n hx hb dX0_copyFrom_40 rfl (lv_at hl 0 rfl) ?_
  refine lv_aload_n hx hb dX0_copyFrom_41 rfl (lv_at hl 1 rfl) ?_
  refine x_get C hR inX0 46 (by decide) (cz0 rfl) rfl 5 (by decide) 6 rfl (.int (sI σ 46 5)) rfl dX0_copyFrom_42 ?_
  refine x_put (τ := (pI (pI (pI (pI (pI (pI σ 1 0 (sI σ 46 0)) 1 1 (sI σ 46 1)) 1 2 (sI σ 46 2)) 1 3 (sI σ 46 3)) 1 4 (sI σ 46 4)) 1 5 (sI σ 46 5))) C hR hS inX0 tyX0 tyX0_ok nmX0 1 (by decide) (cz0 rfl) rfl 5 (by decide) (pfI0_5 rfl) pI_o 6 rfl rfl rfl rfl (Nat.le_of_ble_eq_true rfl) dX0_copyFrom_45 (fun H locs hR hS => ?_)
  refine lv_aload_n hx hb dX0_copyFrom_48 rfl (lv_at hl 0 rfl) ?_
  refine lv_aload_n hx hb dX0_copyFrom_49 rfl (lv_at hl 1 rfl) ?_
  refine x_get C hR inX0 46 (by decide) (cz0 rfl) rfl 6 (by decide) 7 rfl (.int (sI σ 46 6)) rfl dX0_copyFrom_50 ?_
  refine x_put (τ := (pI (pI (pI (pI (pI (pI (pI σ 1 0 (sI σ 46 0)) 1 1 (sI σ 46 1)) 1 2 (sI σ 46 2)) 1 3 (sI σ 46 3)) 1 4 (sI σ 46 4)) 1 5 (sI σ 46 5)) 1 6 (sI σ 46 6))) C hR hS inX0 tyX0 tyX0_ok nmX0 1 (by decide) (cz0 rfl) rfl 6 (by decide) (pfI0_6 rfl) pI_o 7 rfl rfl rfl rfl (Nat.le_of_ble_eq_true rfl) dX0_copyFrom_53 (fun H locs hR hS => ?_)
  refine lv_aload_n hx hb dX0_copyFrom_56 rfl (lv_at hl 0 rfl) ?_
  refine x_get C hR inX0 1 (by decide) (cz0 rfl) rfl 7 (by decide) 8 rfl (.ref (G.2.1 2)) rfl dX0_copyFrom_57 ?_
  refine lv_aload_n hx hb dX0_copyFrom_60 rfl (lv_at hl 1 rfl) ?_
  refine x_get C hR inX0 46 (by decide) (cz0 rfl) rfl 7 (by decide) 8 rfl (.ref (G.2.1 47)) rfl dX0_copyFrom_61 ?_
  obtain ⟨σ64_, hc_64, hf⟩ := bv_some hf
  refine x_cvV C hl.1 hR hS (c_X2_copyFrom l G 3 48 2 rfl rfl rfl 47 rfl rfl rfl (pI (pI (pI (pI (pI (pI (pI σ 1 0 (sI σ 46 0)) 1 1 (sI σ 46 1)) 1 2 (sI σ 46 2)) 1 3 (sI σ 46 3)) 1 4 (sI σ 46 4)) 1 5 (sI σ 46 5)) 1 6 (sI σ 46 6)) _ hc_64) gX0_copyFrom_X2_copyFrom rfl hdV_X2_copyFrom ⟨Nat.le_of_ble_eq_true rfl, Nat.le_of_ble_eq_true rfl⟩ (by decide) (cz1 rfl) rfl rfl (As := [.ref (G.2.1 47)]) (rest := []) rfl (Nat.le_of_ble_eq_true rfl) ⟨Nat.le_of_ble_eq_true rfl, Nat.le_of_ble_eq_true rfl⟩ dX0_copyFrom_64 (fun σ64 H locs hq_64 hR hS => ?_)
  subst hq_64
  refine lv_aload_n hx hb dX0_copyFrom_67 rfl (lv_at hl 0 rfl) ?_
  refine x_get C hR inX0 1 (by decide) (cz0 rfl) rfl 8 (by decide) 9 rfl (.ref (G.2.1 4)) rfl dX0_copyFrom_68 ?_
  refine lv_aload_n hx hb dX0_copyFrom_71 rfl (lv_at hl 1 rfl) ?_
  refine x_get C hR inX0 46 (by decide) (cz0 rfl) rfl 8 (by decide) 9 rfl (.ref (G.2.1 49)) rfl dX0_copyFrom_72 ?_
  obtain ⟨σ75_, hc_75, hf⟩ := bv_some hf
  refine x_cvV C hl.1 hR hS (c_X2_copyFrom l G 5 50 4 rfl rfl rfl 49 rfl rfl rfl σ64 _ hc_75) gX0_copyFrom_X2_copyFrom rfl hdV_X2_copyFrom ⟨Nat.le_of_ble_eq_true rfl, Nat.le_of_ble_eq_true rfl⟩ (by decide) (cz1 rfl) rfl rfl (As := [.ref (G.2.1 49)]) (rest := []) rfl (Nat.le_of_ble_eq_true rfl) ⟨Nat.le_of_ble_eq_true rfl, Nat.le_of_ble_eq_true rfl⟩ dX0_copyFrom_75 (fun σ75 H locs hq_75 hR hS => ?_)
  subst hq_75
  refine lv_aload_n hx hb dX0_copyFrom_78 rfl (lv_at hl 0 rfl) ?_
  refine x_get C hR inX0 1 (by decide) (cz0 rfl) rfl 9 (by decide) 10 rfl (.ref (G.2.1 6)) rfl dX0_copyFrom_79 ?_
  refine lv_aload_n hx hb dX0_copyFrom_82 rfl (lv_at hl 1 rfl) ?_
  refine x_get C hR inX0 46 (by decide) (cz0 rfl) rfl 9 (by decide) 10 rfl (.ref (G.2.1 51)) rfl dX0_copyFrom_83 ?_
  obtain ⟨σ86_, hc_86, hf⟩ := bv_some hf
  refine x_cvV C hl.1 hR hS (c_X2_copyFrom l G 7 52 6 rfl rfl rfl 51 rfl rfl rfl σ75 _ hc_86) gX0_copyFrom_X2_copyFrom rfl hdV_X2_copyFrom ⟨Nat.le_of_ble_eq_true rfl, Nat.le_of_ble_eq_true rfl⟩ (by decide) (cz1 rfl) rfl rfl (As := [.ref (G.2.1 51)]) (rest := []) rfl (Nat.le_of_ble_eq_true rfl) ⟨Nat.le_of_ble_eq_true rfl, Nat.le_of_ble_eq_true rfl⟩ dX0_copyFrom_86 (fun σ86 H locs hq_86 hR hS => ?_)
  subst hq_86
  refine lv_aload_n hx hb dX0_copyFrom_89 rfl (lv_at hl 0 rfl) ?_
  refine x_get C hR inX0 1 (by decide) (cz0 rfl) rfl 10 (by decide) 11 rfl (.ref (G.2.1 8)) rfl dX0_copyFrom_90 ?_
  refine lv_aload_n hx hb dX0_copyFrom_93 rfl (lv_at hl 1 rfl) ?_
  refine x_get C hR inX0 46 (by decide) (cz0 rfl) rfl 10 (by decide) 11 rfl (.ref (G.2.1 53)) rfl dX0_copyFrom_94 ?_
  obtain ⟨σ97_, hc_97, hf⟩ := bv_some hf
  refine x_cvV C hl.1 hR hS (c_X2_copyFrom l G 9 54 8 rfl rfl rfl 53 rfl rfl rfl σ86 _ hc_97) gX0_copyFrom_X2_copyFrom rfl hdV_X2_copyFrom ⟨Nat.le_of_ble_eq_true rfl, Nat.le_of_ble_eq_true rfl⟩ (by decide) (cz1 rfl) rfl rfl (As := [.ref (G.2.1 53)]) (rest := []) rfl (Nat.le_of_ble_eq_true rfl) ⟨Nat.le_of_ble_eq_true rfl, Nat.le_of_ble_eq_true rfl⟩ dX0_copyFrom_97 (fun σ97 H locs hq_97 hR hS => ?_)
  subst hq_97
  refine lv_aload_n hx hb dX0_copyFrom_100 rfl (lv_at hl 0 rfl) ?_
  refine x_get C hR inX0 1 (by decide) (cz0 rfl) rfl 11 (by decide) 12 rfl (.ref (G.2.1 10)) rfl dX0_copyFrom_101 ?_
  refine lv_aload_n hx hb dX0_copyFrom_104 rfl (lv_at hl 1 rfl) ?_
  refine x_get C hR inX0 46 (by decide) (cz0 rfl) rfl 11 (by decide) 12 rfl (.ref (G.2.1 55)) rfl dX0_copyFrom_105 ?_
  obtain ⟨σ108_, hc_108, hf⟩ := bv_some hf
  refine x_cvV C hl.1 hR hS (c_X2_copyFrom l G 11 56 10 rfl rfl rfl 55 rfl rfl rfl σ97 _ hc_108) gX0_copyFrom_X2_copyFrom rfl hdV_X2_copyFrom ⟨Nat.le_of_ble_eq_true rfl, Nat.le_of_ble_eq_true rfl⟩ (by decide) (cz1 rfl) rfl rfl (As := [.ref (G.2.1 55)]) (rest := []) rfl (Nat.le_of_ble_eq_true rfl) ⟨Nat.le_of_ble_eq_true rfl, Nat.le_of_ble_eq_true rfl⟩ dX0_copyFrom_108 (fun σ108 H locs hq_108 hR hS => ?_)
  subst hq_108
  refine lv_aload_n hx hb dX0_copyFrom_111 rfl (lv_at hl 0 rfl) ?_
  refine x_get C hR inX0 1 (by decide) (cz0 rfl) rfl 12 (by decide) 13 rfl (.ref (G.2.1 12)) rfl dX0_copyFrom_112 ?_
  refine lv_aload_n hx hb dX0_copyFrom_115 rfl (lv_at hl 1 rfl) ?_
  refine x_get C hR inX0 46 (by decide) (cz0 rfl) rfl 12 (by decide) 13 rfl (.ref (G.2.1 57)) rfl dX0_copyFrom_116 ?_
  obtain ⟨σ119_, hc_119, hf⟩ := bv_some hf
  refine x_cvV C hl.1 hR hS (c_X2_copyFrom l G 13 58 12 rfl rfl rfl 57 rfl rfl rfl σ108 _ hc_119) gX0_copyFrom_X2_copyFrom rfl hdV_X2_copyFrom ⟨Nat.le_of_ble_eq_true rfl, Nat.le_of_ble_eq_true rfl⟩ (by decide) (cz1 rfl) rfl rfl (As := [.ref (G.2.1 57)]) (rest := []) rfl (Nat.le_of_ble_eq_true rfl) ⟨Nat.le_of_ble_eq_true rfl, Nat.le_of_ble_eq_true rfl⟩ dX0_copyFrom_119 (fun σ119 H locs hq_119 hR hS => ?_)
  subst hq_119
  refine lv_aload_n hx hb dX0_copyFrom_122 rfl (lv_at hl 0 rfl) ?_
  refine x_get C hR inX0 1 (by decide) (cz0 rfl) rfl 13 (by decide) 14 rfl (.ref (G.2.1 14)) rfl dX0_copyFrom_123 ?_
  refine lv_aload_n hx hb dX0_copyFrom_126 rfl (lv_at hl 1 rfl) ?_
  refine x_get C hR inX0 46 (by decide) (cz0 rfl) rfl 13 (by decide) 14 rfl (.ref (G.2.1 59)) rfl dX0_copyFrom_127 ?_
  obtain ⟨σ130_, hc_130, hf⟩ := bv_some hf
  refine x_cvV C hl.1 hR hS (c_X2_copyFrom l G 15 60 14 rfl rfl rfl 59 rfl rfl rfl σ119 _ hc_130) gX0_copyFrom_X2_copyFrom rfl hdV_X2_copyFrom ⟨Nat.le_of_ble_eq_true rfl, Nat.le_of_ble_eq_true rfl⟩ (by decide) (cz1 rfl) rfl rfl (As := [.ref (G.2.1 59)]) (rest := []) rfl (Nat.le_of_ble_eq_true rfl) ⟨Nat.le_of_ble_eq_true rfl, Nat.le_of_ble_eq_true rfl⟩ dX0_copyFrom_130 (fun σ130 H locs hq_130 hR hS => ?_)
  subst hq_130
  obtain rfl := Option.some.inj hf
  exact x_vret C hR hS dX0_copyFrom_133 rfl
def f_X0_copyFrom_1_16 (σ : St) : Option (St) :=
  bv (f_X2_copyFrom 3 18 (pI (pI (pI (pI (pI (pI (pI σ 1 0 (sI σ 16 0)) 1 1 (sI σ 16 1)) 1 2 (sI σ 16 2)) 1 3 (sI σ 16 3)) 1 4 (sI σ 16 4)) 1 5 (sI σ 16 5)) 1 6 (sI σ 16 6))) (fun σ64 => bv (f_X2_copyFrom 5 20 σ64) (fun σ75 => bv (f_X2_copyFrom 7 22 σ75) (fun σ86 => bv (f_X2_copyFrom 9 24 σ86) (fun σ97 => bv (f_X2_copyFrom 11 26 σ97) (fun σ108 => bv (f_X2_copyFrom 13 28 σ108) (fun σ119 => bv (f_X2_copyFrom 15 30 σ119) (fun σ130 => some σ130)))))))
set_option maxHeartbeats 4000000 in
set_option maxRecDepth 100000 in
theorem c_X0_copyFrom_1_16 (l : Launch) (G : GG) (σ : St) (res : St) (hf : f_X0_copyFrom_1_16 σ = some res) : CV l yX0_copyFrom wsX0_copyFrom 2 [.ref (G.2.1 1), .ref (G.2.1 16)] G σ (fun u => u = res) := by
  refine x_ent (ret := none) cX0_copyFrom 2 (by decide) rfl (Nat.le_of_ble_eq_true rfl) ?_
  intro p e s m below meth c ls C hR hS hl
  have C : Cx p s m [.ref (G.2.1 1), .ref (G.2.1 16)].toArray meth c cX0_copyFrom RX0 wsX0_copyFrom none 2 G := C
  have hx := C.1
  have hb := C.2.1
  have hl : lv_has ls 2 [(0, .ref (G.2.1 1)), (1, .ref (G.2.1 16))] := hl
  have inX0 : ∀ w ∈ u_ws RX0 TX0 14, w ∈ wsX0_copyFrom := fun w h => List.mem_cons_of_mem _ (List.mem_append_left _ (List.mem_append_right _ h))
  unfold f_X0_copyFrom_1_16 at hf
  refine lv_aload_n hx hb dX0_copyFrom_0 rfl (lv_at hl 0 rfl) ?_
  refine lv_aload_n hx hb dX0_copyFrom_1 rfl (lv_at hl 1 rfl) ?_
  refine x_get C hR inX0 16 (by decide) (cz0 rfl) rfl 0 (by decide) 1 rfl (.int (sI σ 16 0)) rfl dX0_copyFrom_2 ?_
  refine x_put (τ := (pI σ 1 0 (sI σ 16 0))) C hR hS inX0 tyX0 tyX0_ok nmX0 1 (by decide) (cz0 rfl) rfl 0 (by decide) (pfI0_0 rfl) pI_o 1 rfl rfl rfl rfl (Nat.le_of_ble_eq_true rfl) dX0_copyFrom_5 (fun H locs hR hS => ?_)
  refine lv_aload_n hx hb dX0_copyFrom_8 rfl (lv_at hl 0 rfl) ?_
  refine lv_aload_n hx hb dX0_copyFrom_9 rfl (lv_at hl 1 rfl) ?_
  refine x_get C hR inX0 16 (by decide) (cz0 rfl) rfl 1 (by decide) 2 rfl (.int (sI σ 16 1)) rfl dX0_copyFrom_10 ?_
  refine x_put (τ := (pI (pI σ 1 0 (sI σ 16 0)) 1 1 (sI σ 16 1))) C hR hS inX0 tyX0 tyX0_ok nmX0 1 (by decide) (cz0 rfl) rfl 1 (by decide) (pfI0_1 rfl) pI_o 2 rfl rfl rfl rfl (Nat.le_of_ble_eq_true rfl) dX0_copyFrom_13 (fun H locs hR hS => ?_)
  refine lv_aload_n hx hb dX0_copyFrom_16 rfl (lv_at hl 0 rfl) ?_
  refine lv_aload_n hx hb dX0_copyFrom_17 rfl (lv_at hl 1 rfl) ?_
  refine x_get C hR inX0 16 (by decide) (cz0 rfl) rfl 2 (by decide) 3 rfl (.int (sI σ 16 2)) rfl dX0_copyFrom_18 ?_
  refine x_put (τ := (pI (pI (pI σ 1 0 (sI σ 16 0)) 1 1 (sI σ 16 1)) 1 2 (sI σ 16 2))) C hR hS inX0 tyX0 tyX0_ok nmX0 1 (by decide) (cz0 rfl) rfl 2 (by decide) (pfI0_2 rfl) pI_o 3 rfl rfl rfl rfl (Nat.le_of_ble_eq_true rfl) dX0_copyFrom_21 (fun H locs hR hS => ?_)
  refine lv_aload_n hx hb dX0_copyFrom_24 rfl (lv_at hl 0 rfl) ?_
  refine lv_aload_n hx hb dX0_copyFrom_25 rfl (lv_at hl 1 rfl) ?_
  refine x_get C hR inX0 16 (by decide) (cz0 rfl) rfl 3 (by decide) 4 rfl (.int (sI σ 16 3)) rfl dX0_copyFrom_26 ?_
  refine x_put (τ := (pI (pI (pI (pI σ 1 0 (sI σ 16 0)) 1 1 (sI σ 16 1)) 1 2 (sI σ 16 2)) 1 3 (sI σ 16 3))) C hR hS inX0 tyX0 tyX0_ok nmX0 1 (by decide) (cz0 rfl) rfl 3 (by decide) (pfI0_3 rfl) pI_o 4 rfl rfl rfl rfl (Nat.le_of_ble_eq_true rfl) dX0_copyFrom_29 (fun H locs hR hS => ?_)
  refine lv_aload_n hx hb dX0_copyFrom_32 rfl (lv_at hl 0 rfl) ?_
  refine lv_aload_n hx hb dX0_copyFrom_33 rfl (lv_at hl 1 rfl) ?_
  refine x_get C hR inX0 16 (by decide) (cz0 rfl) rfl 4 (by decide) 5 rfl (.int (sI σ 16 4)) rfl dX0_copyFrom_34 ?_
  refine x_put (τ := (pI (pI (pI (pI (pI σ 1 0 (sI σ 16 0)) 1 1 (sI σ 16 1)) 1 2 (sI σ 16 2)) 1 3 (sI σ 16 3)) 1 4 (sI σ 16 4))) C hR hS inX0 tyX0 tyX0_ok nmX0 1 (by decide) (cz0 rfl) rfl 4 (by decide) (pfI0_4 rfl) pI_o 5 rfl rfl rfl rfl (Nat.le_of_ble_eq_true rfl) dX0_copyFrom_37 (fun H locs hR hS => ?_)
  refine lv_aload_n hx hb dX0_copyFrom_40 rfl (lv_at hl 0 rfl) ?_
  refine lv_aload_n hx hb dX0_copyFrom_41 rfl (lv_at hl 1 rfl) ?_
  refine x_get C hR inX0 16 (by decide) (cz0 rfl) rfl 5 (by decide) 6 rfl (.int (sI σ 16 5)) rfl dX0_copyFrom_42 ?_
  refine x_put (τ := (pI (pI (pI (pI (pI (pI σ 1 0 (sI σ 16 0)) 1 1 (sI σ 16 1)) 1 2 (sI σ 16 2)) 1 3 (sI σ 16 3)) 1 4 (sI σ 16 4)) 1 5 (sI σ 16 5))) C hR hS inX0 tyX0 tyX0_ok nmX0 1 (by decide) (cz0 rfl) rfl 5 (by decide) (pfI0_5 rfl) pI_o 6 rfl rfl rfl rfl (Nat.le_of_ble_eq_true rfl) dX0_copyFrom_45 (fun H locs hR hS => ?_)
  refine lv_aload_n hx hb dX0_copyFrom_48 rfl (lv_at hl 0 rfl) ?_
  refine lv_aload_n hx hb dX0_copyFrom_49 rfl (lv_at hl 1 rfl) ?_
  refine x_get C hR inX0 16 (by decide) (cz0 rfl) rfl 6 (by decide) 7 rfl (.int (sI σ 16 6)) rfl dX0_copyFrom_50 ?_
  refine x_put (τ := (pI (pI (pI (pI (pI (pI (pI σ 1 0 (sI σ 16 0)) 1 1 (sI σ 16 1)) 1 2 (sI σ 16 2)) 1 3 (sI σ 16 3)) 1 4 (sI σ 16 4)) 1 5 (sI σ 16 5)) 1 6 (sI σ 16 6))) C hR hS inX0 tyX0 tyX0_ok nmX0 1 (by decide) (cz0 rfl) rfl 6 (by decide) (pfI0_6 rfl) pI_o 7 rfl rfl rfl rfl (Nat.le_of_ble_eq_true rfl) dX0_copyFrom_53 (fun H locs hR hS => ?_)
  refine lv_aload_n hx hb dX0_copyFrom_56 rfl (lv_at hl 0 rfl) ?_
  refine x_get C hR inX0 1 (by decide) (cz0 rfl) rfl 7 (by decide) 8 rfl (.ref (G.2.1 2)) rfl dX0_copyFrom_57 ?_
  refine lv_aload_n hx hb dX0_copyFrom_60 rfl (lv_at hl 1 rfl) ?_
  refine x_get C hR inX0 16 (by decide) (cz0 rfl) rfl 7 (by decide) 8 rfl (.ref (G.2.1 17)) rfl dX0_copyFrom_61 ?_
  obtain ⟨σ64_, hc_64, hf⟩ := bv_some hf
  refine x_cvV C hl.1 hR hS (c_X2_copyFrom l G 3 18 2 rfl rfl rfl 17 rfl rfl rfl (pI (pI (pI (pI (pI (pI (pI σ 1 0 (sI σ 16 0)) 1 1 (sI σ 16 1)) 1 2 (sI σ 16 2)) 1 3 (sI σ 16 3)) 1 4 (sI σ 16 4)) 1 5 (sI σ 16 5)) 1 6 (sI σ 16 6)) _ hc_64) gX0_copyFrom_X2_copyFrom rfl hdV_X2_copyFrom ⟨Nat.le_of_ble_eq_true rfl, Nat.le_of_ble_eq_true rfl⟩ (by decide) (cz1 rfl) rfl rfl (As := [.ref (G.2.1 17)]) (rest := []) rfl (Nat.le_of_ble_eq_true rfl) ⟨Nat.le_of_ble_eq_true rfl, Nat.le_of_ble_eq_true rfl⟩ dX0_copyFrom_64 (fun σ64 H locs hq_64 hR hS => ?_)
  subst hq_64
  refine lv_aload_n hx hb dX0_copyFrom_67 rfl (lv_at hl 0 rfl) ?_
  refine x_get C hR inX0 1 (by decide) (cz0 rfl) rfl 8 (by decide) 9 rfl (.ref (G.2.1 4)) rfl dX0_copyFrom_68 ?_
  refine lv_aload_n hx hb dX0_copyFrom_71 rfl (lv_at hl 1 rfl) ?_
  refine x_get C hR inX0 16 (by decide) (cz0 rfl) rfl 8 (by decide) 9 rfl (.ref (G.2.1 19)) rfl dX0_copyFrom_72 ?_
  obtain ⟨σ75_, hc_75, hf⟩ := bv_some hf
  refine x_cvV C hl.1 hR hS (c_X2_copyFrom l G 5 20 4 rfl rfl rfl 19 rfl rfl rfl σ64 _ hc_75) gX0_copyFrom_X2_copyFrom rfl hdV_X2_copyFrom ⟨Nat.le_of_ble_eq_true rfl, Nat.le_of_ble_eq_true rfl⟩ (by decide) (cz1 rfl) rfl rfl (As := [.ref (G.2.1 19)]) (rest := []) rfl (Nat.le_of_ble_eq_true rfl) ⟨Nat.le_of_ble_eq_true rfl, Nat.le_of_ble_eq_true rfl⟩ dX0_copyFrom_75 (fun σ75 H locs hq_75 hR hS => ?_)
  subst hq_75
  refine lv_aload_n hx hb dX0_copyFrom_78 rfl (lv_at hl 0 rfl) ?_
  refine x_get C hR inX0 1 (by decide) (cz0 rfl) rfl 9 (by decide) 10 rfl (.ref (G.2.1 6)) rfl dX0_copyFrom_79 ?_
  refine lv_aload_n hx hb dX0_copyFrom_82 rfl (lv_at hl 1 rfl) ?_
  refine x_get C hR inX0 16 (by decide) (cz0 rfl) rfl 9 (by decide) 10 rfl (.ref (G.2.1 21)) rfl dX0_copyFrom_83 ?_
  obtain ⟨σ86_, hc_86, hf⟩ := bv_some hf
  refine x_cvV C hl.1 hR hS (c_X2_copyFrom l G 7 22 6 rfl rfl rfl 21 rfl rfl rfl σ75 _ hc_86) gX0_copyFrom_X2_copyFrom rfl hdV_X2_copyFrom ⟨Nat.le_of_ble_eq_true rfl, Nat.le_of_ble_eq_true rfl⟩ (by decide) (cz1 rfl) rfl rfl (As := [.ref (G.2.1 21)]) (rest := []) rfl (Nat.le_of_ble_eq_true rfl) ⟨Nat.le_of_ble_eq_true rfl, Nat.le_of_ble_eq_true rfl⟩ dX0_copyFrom_86 (fun σ86 H locs hq_86 hR hS => ?_)
  subst hq_86
  refine lv_aload_n hx hb dX0_copyFrom_89 rfl (lv_at hl 0 rfl) ?_
  refine x_get C hR inX0 1 (by decide) (cz0 rfl) rfl 10 (by decide) 11 rfl (.ref (G.2.1 8)) rfl dX0_copyFrom_90 ?_
  refine lv_aload_n hx hb dX0_copyFrom_93 rfl (lv_at hl 1 rfl) ?_
  refine x_get C hR inX0 16 (by decide) (cz0 rfl) rfl 10 (by decide) 11 rfl (.ref (G.2.1 23)) rfl dX0_copyFrom_94 ?_
  obtain ⟨σ97_, hc_97, hf⟩ := bv_some hf
  refine x_cvV C hl.1 hR hS (c_X2_copyFrom l G 9 24 8 rfl rfl rfl 23 rfl rfl rfl σ86 _ hc_97) gX0_copyFrom_X2_copyFrom rfl hdV_X2_copyFrom ⟨Nat.le_of_ble_eq_true rfl, Nat.le_of_ble_eq_true rfl⟩ (by decide) (cz1 rfl) rfl rfl (As := [.ref (G.2.1 23)]) (rest := []) rfl (Nat.le_of_ble_eq_true rfl) ⟨Nat.le_of_ble_eq_true rfl, Nat.le_of_ble_eq_true rfl⟩ dX0_copyFrom_97 (fun σ97 H locs hq_97 hR hS => ?_)
  subst hq_97
  refine lv_aload_n hx hb dX0_copyFrom_100 rfl (lv_at hl 0 rfl) ?_
  refine x_get C hR inX0 1 (by decide) (cz0 rfl) rfl 11 (by decide) 12 rfl (.ref (G.2.1 10)) rfl dX0_copyFrom_101 ?_
  refine lv_aload_n hx hb dX0_copyFrom_104 rfl (lv_at hl 1 rfl) ?_
  refine x_get C hR inX0 16 (by decide) (cz0 rfl) rfl 11 (by decide) 12 rfl (.ref (G.2.1 25)) rfl dX0_copyFrom_105 ?_
  obtain ⟨σ108_, hc_108, hf⟩ := bv_some hf
  refine x_cvV C hl.1 hR hS (c_X2_copyFrom l G 11 26 10 rfl rfl rfl 25 rfl rfl rfl σ97 _ hc_108) gX0_copyFrom_X2_copyFrom rfl hdV_X2_copyFrom ⟨Nat.le_of_ble_eq_true rfl, Nat.le_of_ble_eq_true rfl⟩ (by decide) (cz1 rfl) rfl rfl (As := [.ref (G.2.1 25)]) (rest := []) rfl (Nat.le_of_ble_eq_true rfl) ⟨Nat.le_of_ble_eq_true rfl, Nat.le_of_ble_eq_true rfl⟩ dX0_copyFrom_108 (fun σ108 H locs hq_108 hR hS => ?_)
  subst hq_108
  refine lv_aload_n hx hb dX0_copyFrom_111 rfl (lv_at hl 0 rfl) ?_
  refine x_get C hR inX0 1 (by decide) (cz0 rfl) rfl 12 (by decide) 13 rfl (.ref (G.2.1 12)) rfl dX0_copyFrom_112 ?_
  refine lv_aload_n hx hb dX0_copyFrom_115 rfl (lv_at hl 1 rfl) ?_
  refine x_get C hR inX0 16 (by decide) (cz0 rfl) rfl 12 (by decide) 13 rfl (.ref (G.2.1 27)) rfl dX0_copyFrom_116 ?_
  obtain ⟨σ119_, hc_119, hf⟩ := bv_some hf
  refine x_cvV C hl.1 hR hS (c_X2_copyFrom l G 13 28 12 rfl rfl rfl 27 rfl rfl rfl σ108 _ hc_119) gX0_copyFrom_X2_copyFrom rfl hdV_X2_copyFrom ⟨Nat.le_of_ble_eq_true rfl, Nat.le_of_ble_eq_true rfl⟩ (by decide) (cz1 rfl) rfl rfl (As := [.ref (G.2.1 27)]) (rest := []) rfl (Nat.le_of_ble_eq_true rfl) ⟨Nat.le_of_ble_eq_true rfl, Nat.le_of_ble_eq_true rfl⟩ dX0_copyFrom_119 (fun σ119 H locs hq_119 hR hS => ?_)
  subst hq_119
  refine lv_aload_n hx hb dX0_copyFrom_122 rfl (lv_at hl 0 rfl) ?_
  refine x_get C hR inX0 1 (by decide) (cz0 rfl) rfl 13 (by decide) 14 rfl (.ref (G.2.1 14)) rfl dX0_copyFrom_123 ?_
  refine lv_aload_n hx hb dX0_copyFrom_126 rfl (lv_at hl 1 rfl) ?_
  refine x_get C hR inX0 16 (by decide) (cz0 rfl) rfl 13 (by decide) 14 rfl (.ref (G.2.1 29)) rfl dX0_copyFrom_127 ?_
  obtain ⟨σ130_, hc_130, hf⟩ := bv_some hf
  refine x_cvV C hl.1 hR hS (c_X2_copyFrom l G 15 30 14 rfl rfl rfl 29 rfl rfl rfl σ119 _ hc_130) gX0_copyFrom_X2_copyFrom rfl hdV_X2_copyFrom ⟨Nat.le_of_ble_eq_true rfl, Nat.le_of_ble_eq_true rfl⟩ (by decide) (cz1 rfl) rfl rfl (As := [.ref (G.2.1 29)]) (rest := []) rfl (Nat.le_of_ble_eq_true rfl) ⟨Nat.le_of_ble_eq_true rfl, Nat.le_of_ble_eq_true rfl⟩ dX0_copyFrom_130 (fun σ130 H locs hq_130 hR hS => ?_)
  subst hq_130
  obtain rfl := Option.some.inj hf
  exact x_vret C hR hS dX0_copyFrom_133 rfl
def f_X0_copyFrom_1_31 (σ : St) : Option (St) :=
  bv (f_X2_copyFrom 3 33 (pI (pI (pI (pI (pI (pI (pI σ 1 0 (sI σ 31 0)) 1 1 (sI σ 31 1)) 1 2 (sI σ 31 2)) 1 3 (sI σ 31 3)) 1 4 (sI σ 31 4)) 1 5 (sI σ 31 5)) 1 6 (sI σ 31 6))) (fun σ64 => bv (f_X2_copyFrom 5 35 σ64) (fun σ75 => bv (f_X2_copyFrom 7 37 σ75) (fun σ86 => bv (f_X2_copyFrom 9 39 σ86) (fun σ97 => bv (f_X2_copyFrom 11 41 σ97) (fun σ108 => bv (f_X2_copyFrom 13 43 σ108) (fun σ119 => bv (f_X2_copyFrom 15 45 σ119) (fun σ130 => some σ130)))))))
set_option maxHeartbeats 4000000 in
set_option maxRecDepth 100000 in
theorem c_X0_copyFrom_1_31 (l : Launch) (G : GG) (σ : St) (res : St) (hf : f_X0_copyFrom_1_31 σ = some res) : CV l yX0_copyFrom wsX0_copyFrom 2 [.ref (G.2.1 1), .ref (G.2.1 31)] G σ (fun u => u = res) := by
  refine x_ent (ret := none) cX0_copyFrom 2 (by decide) rfl (Nat.le_of_ble_eq_true rfl) ?_
  intro p e s m below meth c ls C hR hS hl
  have C : Cx p s m [.ref (G.2.1 1), .ref (G.2.1 31)].toArray meth c cX0_copyFrom RX0 wsX0_copyFrom none 2 G := C
  have hx := C.1
  have hb := C.2.1
  have hl : lv_has ls 2 [(0, .ref (G.2.1 1)), (1, .ref (G.2.1 31))] := hl
  have inX0 : ∀ w ∈ u_ws RX0 TX0 14, w ∈ wsX0_copyFrom := fun w h => List.mem_cons_of_mem _ (List.mem_append_left _ (List.mem_append_right _ h))
  unfold f_X0_copyFrom_1_31 at hf
  refine lv_aload_n hx hb dX0_copyFrom_0 rfl (lv_at hl 0 rfl) ?_
  refine lv_aload_n hx hb dX0_copyFrom_1 rfl (lv_at hl 1 rfl) ?_
  refine x_get C hR inX0 31 (by decide) (cz0 rfl) rfl 0 (by decide) 1 rfl (.int (sI σ 31 0)) rfl dX0_copyFrom_2 ?_
  refine x_put (τ := (pI σ 1 0 (sI σ 31 0))) C hR hS inX0 tyX0 tyX0_ok nmX0 1 (by decide) (cz0 rfl) rfl 0 (by decide) (pfI0_0 rfl) pI_o 1 rfl rfl rfl rfl (Nat.le_of_ble_eq_true rfl) dX0_copyFrom_5 (fun H locs hR hS => ?_)
  refine lv_aload_n hx hb dX0_copyFrom_8 rfl (lv_at hl 0 rfl) ?_
  refine lv_aload_n hx hb dX0_copyFrom_9 rfl (lv_at hl 1 rfl) ?_
  refine x_get C hR inX0 31 (by decide) (cz0 rfl) rfl 1 (by decide) 2 rfl (.int (sI σ 31 1)) rfl dX0_copyFrom_10 ?_
  refine x_put (τ := (pI (pI σ 1 0 (sI σ 31 0)) 1 1 (sI σ 31 1))) C hR hS inX0 tyX0 tyX0_ok nmX0 1 (by decide) (cz0 rfl) rfl 1 (by decide) (pfI0_1 rfl) pI_o 2 rfl rfl rfl rfl (Nat.le_of_ble_eq_true rfl) dX0_copyFrom_13 (fun H locs hR hS => ?_)
  refine lv_aload_n hx hb dX0_copyFrom_16 rfl (lv_at hl 0 rfl) ?_
  refine lv_aload_n hx hb dX0_copyFrom_17 rfl (lv_at hl 1 rfl) ?_
  refine x_get C hR inX0 31 (by decide) (cz0 rfl) rfl 2 (by decide) 3 rfl (.int (sI σ 31 2)) rfl dX0_copyFrom_18 ?_
  refine x_put (τ := (pI (pI (pI σ 1 0 (sI σ 31 0)) 1 1 (sI σ 31 1)) 1 2 (sI σ 31 2))) C hR hS inX0 tyX0 tyX0_ok nmX0 1 (by decide) (cz0 rfl) rfl 2 (by decide) (pfI0_2 rfl) pI_o 3 rfl rfl rfl rfl (Nat.le_of_ble_eq_true rfl) dX0_copyFrom_21 (fun H locs hR hS => ?_)
  refine lv_aload_n hx hb dX0_copyFrom_24 rfl (lv_at hl 0 rfl) ?_
  refine lv_aload_n hx hb dX0_copyFrom_25 rfl (lv_at hl 1 rfl) ?_
  refine x_get C hR inX0 31 (by decide) (cz0 rfl) rfl 3 (by decide) 4 rfl (.int (sI σ 31 3)) rfl dX0_copyFrom_26 ?_
  refine x_put (τ := (pI (pI (pI (pI σ 1 0 (sI σ 31 0)) 1 1 (sI σ 31 1)) 1 2 (sI σ 31 2)) 1 3 (sI σ 31 3))) C hR hS inX0 tyX0 tyX0_ok nmX0 1 (by decide) (cz0 rfl) rfl 3 (by decide) (pfI0_3 rfl) pI_o 4 rfl rfl rfl rfl (Nat.le_of_ble_eq_true rfl) dX0_copyFrom_29 (fun H locs hR hS => ?_)
  refine lv_aload_n hx hb dX0_copyFrom_32 rfl (lv_at hl 0 rfl) ?_
  refine lv_aload_n hx hb dX0_copyFrom_33 rfl (lv_at hl 1 rfl) ?_
  refine x_get C hR inX0 31 (by decide) (cz0 rfl) rfl 4 (by decide) 5 rfl (.int (sI σ 31 4)) rfl dX0_copyFrom_34 ?_
  refine x_put (τ := (pI (pI (pI (pI (pI σ 1 0 (sI σ 31 0)) 1 1 (sI σ 31 1)) 1 2 (sI σ 31 2)) 1 3 (sI σ 31 3)) 1 4 (sI σ 31 4))) C hR hS inX0 tyX0 tyX0_ok nmX0 1 (by decide) (cz0 rfl) rfl 4 (by decide) (pfI0_4 rfl) pI_o 5 rfl rfl rfl rfl (Nat.le_of_ble_eq_true rfl) dX0_copyFrom_37 (fun H locs hR hS => ?_)
  refine lv_aload_n hx hb dX0_copyFrom_40 rfl (lv_at hl 0 rfl) ?_
  refine lv_aload_n hx hb dX0_copyFrom_41 rfl (lv_at hl 1 rfl) ?_
  refine x_get C hR inX0 31 (by decide) (cz0 rfl) rfl 5 (by decide) 6 rfl (.int (sI σ 31 5)) rfl dX0_copyFrom_42 ?_
  refine x_put (τ := (pI (pI (pI (pI (pI (pI σ 1 0 (sI σ 31 0)) 1 1 (sI σ 31 1)) 1 2 (sI σ 31 2)) 1 3 (sI σ 31 3)) 1 4 (sI σ 31 4)) 1 5 (sI σ 31 5))) C hR hS inX0 tyX0 tyX0_ok nmX0 1 (by decide) (cz0 rfl) rfl 5 (by decide) (pfI0_5 rfl) pI_o 6 rfl rfl rfl rfl (Nat.le_of_ble_eq_true rfl) dX0_copyFrom_45 (fun H locs hR hS => ?_)
  refine lv_aload_n hx hb dX0_copyFrom_48 rfl (lv_at hl 0 rfl) ?_
  refine lv_aload_n hx hb dX0_copyFrom_49 rfl (lv_at hl 1 rfl) ?_
  refine x_get C hR inX0 31 (by decide) (cz0 rfl) rfl 6 (by decide) 7 rfl (.int (sI σ 31 6)) rfl dX0_copyFrom_50 ?_
  refine x_put (τ := (pI (pI (pI (pI (pI (pI (pI σ 1 0 (sI σ 31 0)) 1 1 (sI σ 31 1)) 1 2 (sI σ 31 2)) 1 3 (sI σ 31 3)) 1 4 (sI σ 31 4)) 1 5 (sI σ 31 5)) 1 6 (sI σ 31 6))) C hR hS inX0 tyX0 tyX0_ok nmX0 1 (by decide) (cz0 rfl) rfl 6 (by decide) (pfI0_6 rfl) pI_o 7 rfl rfl rfl rfl (Nat.le_of_ble_eq_true rfl) dX0_copyFrom_53 (fun H locs hR hS => ?_)
  refine lv_aload_n hx hb dX0_copyFrom_56 rfl (lv_at hl 0 rfl) ?_
  refine x_get C hR inX0 1 (by decide) (cz0 rfl) rfl 7 (by decide) 8 rfl (.ref (G.2.1 2)) rfl dX0_copyFrom_57 ?_
  refine lv_aload_n hx hb dX0_copyFrom_60 rfl (lv_at hl 1 rfl) ?_
  refine x_get C hR inX0 31 (by decide) (cz0 rfl) rfl 7 (by decide) 8 rfl (.ref (G.2.1 32)) rfl dX0_copyFrom_61 ?_
  obtain ⟨σ64_, hc_64, hf⟩ := bv_some hf
  refine x_cvV C hl.1 hR hS (c_X2_copyFrom l G 3 33 2 rfl rfl rfl 32 rfl rfl rfl (pI (pI (pI (pI (pI (pI (pI σ 1 0 (sI σ 31 0)) 1 1 (sI σ 31 1)) 1 2 (sI σ 31 2)) 1 3 (sI σ 31 3)) 1 4 (sI σ 31 4)) 1 5 (sI σ 31 5)) 1 6 (sI σ 31 6)) _ hc_64) gX0_copyFrom_X2_copyFrom rfl hdV_X2_copyFrom ⟨Nat.le_of_ble_eq_true rfl, Nat.le_of_ble_eq_true rfl⟩ (by decide) (cz1 rfl) rfl rfl (As := [.ref (G.2.1 32)]) (rest := []) rfl (Nat.le_of_ble_eq_true rfl) ⟨Nat.le_of_ble_eq_true rfl, Nat.le_of_ble_eq_true rfl⟩ dX0_copyFrom_64 (fun σ64 H locs hq_64 hR hS => ?_)
  subst hq_64
  refine lv_aload_n hx hb dX0_copyFrom_67 rfl (lv_at hl 0 rfl) ?_
  refine x_get C hR inX0 1 (by decide) (cz0 rfl) rfl 8 (by decide) 9 rfl (.ref (G.2.1 4)) rfl dX0_copyFrom_68 ?_
  refine lv_aload_n hx hb dX0_copyFrom_71 rfl (lv_at hl 1 rfl) ?_
  refine x_get C hR inX0 31 (by decide) (cz0 rfl) rfl 8 (by decide) 9 rfl (.ref (G.2.1 34)) rfl dX0_copyFrom_72 ?_
  obtain ⟨σ75_, hc_75, hf⟩ := bv_some hf
  refine x_cvV C hl.1 hR hS (c_X2_copyFrom l G 5 35 4 rfl rfl rfl 34 rfl rfl rfl σ64 _ hc_75) gX0_copyFrom_X2_copyFrom rfl hdV_X2_copyFrom ⟨Nat.le_of_ble_eq_true rfl, Nat.le_of_ble_eq_true rfl⟩ (by decide) (cz1 rfl) rfl rfl (As := [.ref (G.2.1 34)]) (rest := []) rfl (Nat.le_of_ble_eq_true rfl) ⟨Nat.le_of_ble_eq_true rfl, Nat.le_of_ble_eq_true rfl⟩ dX0_copyFrom_75 (fun σ75 H locs hq_75 hR hS => ?_)
  subst hq_75
  refine lv_aload_n hx hb dX0_copyFrom_78 rfl (lv_at hl 0 rfl) ?_
  refine x_get C hR inX0 1 (by decide) (cz0 rfl) rfl 9 (by decide) 10 rfl (.ref (G.2.1 6)) rfl dX0_copyFrom_79 ?_
  refine lv_aload_n hx hb dX0_copyFrom_82 rfl (lv_at hl 1 rfl) ?_
  refine x_get C hR inX0 31 (by decide) (cz0 rfl) rfl 9 (by decide) 10 rfl (.ref (G.2.1 36)) rfl dX0_copyFrom_83 ?_
  obtain ⟨σ86_, hc_86, hf⟩ := bv_some hf
  refine x_cvV C hl.1 hR hS (c_X2_copyFrom l G 7 37 6 rfl rfl rfl 36 rfl rfl rfl σ75 _ hc_86) gX0_copyFrom_X2_copyFrom rfl hdV_X2_copyFrom ⟨Nat.le_of_ble_eq_true rfl, Nat.le_of_ble_eq_true rfl⟩ (by decide) (cz1 rfl) rfl rfl (As := [.ref (G.2.1 36)]) (rest := []) rfl (Nat.le_of_ble_eq_true rfl) ⟨Nat.le_of_ble_eq_true rfl, Nat.le_of_ble_eq_true rfl⟩ dX0_copyFrom_86 (fun σ86 H locs hq_86 hR hS => ?_)
  subst hq_86
  refine lv_aload_n hx hb dX0_copyFrom_89 rfl (lv_at hl 0 rfl) ?_
  refine x_get C hR inX0 1 (by decide) (cz0 rfl) rfl 10 (by decide) 11 rfl (.ref (G.2.1 8)) rfl dX0_copyFrom_90 ?_
  refine lv_aload_n hx hb dX0_copyFrom_93 rfl (lv_at hl 1 rfl) ?_
  refine x_get C hR inX0 31 (by decide) (cz0 rfl) rfl 10 (by decide) 11 rfl (.ref (G.2.1 38)) rfl dX0_copyFrom_94 ?_
  obtain ⟨σ97_, hc_97, hf⟩ := bv_some hf
  refine x_cvV C hl.1 hR hS (c_X2_copyFrom l G 9 39 8 rfl rfl rfl 38 rfl rfl rfl σ86 _ hc_97) gX0_copyFrom_X2_copyFrom rfl hdV_X2_copyFrom ⟨Nat.le_of_ble_eq_true rfl, Nat.le_of_ble_eq_true rfl⟩ (by decide) (cz1 rfl) rfl rfl (As := [.ref (G.2.1 38)]) (rest := []) rfl (Nat.le_of_ble_eq_true rfl) ⟨Nat.le_of_ble_eq_true rfl, Nat.le_of_ble_eq_true rfl⟩ dX0_copyFrom_97 (fun σ97 H locs hq_97 hR hS => ?_)
  subst hq_97
  refine lv_aload_n hx hb dX0_copyFrom_100 rfl (lv_at hl 0 rfl) ?_
  refine x_get C hR inX0 1 (by decide) (cz0 rfl) rfl 11 (by decide) 12 rfl (.ref (G.2.1 10)) rfl dX0_copyFrom_101 ?_
  refine lv_aload_n hx hb dX0_copyFrom_104 rfl (lv_at hl 1 rfl) ?_
  refine x_get C hR inX0 31 (by decide) (cz0 rfl) rfl 11 (by decide) 12 rfl (.ref (G.2.1 40)) rfl dX0_copyFrom_105 ?_
  obtain ⟨σ108_, hc_108, hf⟩ := bv_some hf
  refine x_cvV C hl.1 hR hS (c_X2_copyFrom l G 11 41 10 rfl rfl rfl 40 rfl rfl rfl σ97 _ hc_108) gX0_copyFrom_X2_copyFrom rfl hdV_X2_copyFrom ⟨Nat.le_of_ble_eq_true rfl, Nat.le_of_ble_eq_true rfl⟩ (by decide) (cz1 rfl) rfl rfl (As := [.ref (G.2.1 40)]) (rest := []) rfl (Nat.le_of_ble_eq_true rfl) ⟨Nat.le_of_ble_eq_true rfl, Nat.le_of_ble_eq_true rfl⟩ dX0_copyFrom_108 (fun σ108 H locs hq_108 hR hS => ?_)
  subst hq_108
  refine lv_aload_n hx hb dX0_copyFrom_111 rfl (lv_at hl 0 rfl) ?_
  refine x_get C hR inX0 1 (by decide) (cz0 rfl) rfl 12 (by decide) 13 rfl (.ref (G.2.1 12)) rfl dX0_copyFrom_112 ?_
  refine lv_aload_n hx hb dX0_copyFrom_115 rfl (lv_at hl 1 rfl) ?_
  refine x_get C hR inX0 31 (by decide) (cz0 rfl) rfl 12 (by decide) 13 rfl (.ref (G.2.1 42)) rfl dX0_copyFrom_116 ?_
  obtain ⟨σ119_, hc_119, hf⟩ := bv_some hf
  refine x_cvV C hl.1 hR hS (c_X2_copyFrom l G 13 43 12 rfl rfl rfl 42 rfl rfl rfl σ108 _ hc_119) gX0_copyFrom_X2_copyFrom rfl hdV_X2_copyFrom ⟨Nat.le_of_ble_eq_true rfl, Nat.le_of_ble_eq_true rfl⟩ (by decide) (cz1 rfl) rfl rfl (As := [.ref (G.2.1 42)]) (rest := []) rfl (Nat.le_of_ble_eq_true rfl) ⟨Nat.le_of_ble_eq_true rfl, Nat.le_of_ble_eq_true rfl⟩ dX0_copyFrom_119 (fun σ119 H locs hq_119 hR hS => ?_)
  subst hq_119
  refine lv_aload_n hx hb dX0_copyFrom_122 rfl (lv_at hl 0 rfl) ?_
  refine x_get C hR inX0 1 (by decide) (cz0 rfl) rfl 13 (by decide) 14 rfl (.ref (G.2.1 14)) rfl dX0_copyFrom_123 ?_
  refine lv_aload_n hx hb dX0_copyFrom_126 rfl (lv_at hl 1 rfl) ?_
  refine x_get C hR inX0 31 (by decide) (cz0 rfl) rfl 13 (by decide) 14 rfl (.ref (G.2.1 44)) rfl dX0_copyFrom_127 ?_
  obtain ⟨σ130_, hc_130, hf⟩ := bv_some hf
  refine x_cvV C hl.1 hR hS (c_X2_copyFrom l G 15 45 14 rfl rfl rfl 44 rfl rfl rfl σ119 _ hc_130) gX0_copyFrom_X2_copyFrom rfl hdV_X2_copyFrom ⟨Nat.le_of_ble_eq_true rfl, Nat.le_of_ble_eq_true rfl⟩ (by decide) (cz1 rfl) rfl rfl (As := [.ref (G.2.1 44)]) (rest := []) rfl (Nat.le_of_ble_eq_true rfl) ⟨Nat.le_of_ble_eq_true rfl, Nat.le_of_ble_eq_true rfl⟩ dX0_copyFrom_130 (fun σ130 H locs hq_130 hR hS => ?_)
  subst hq_130
  obtain rfl := Option.some.inj hf
  exact x_vret C hR hS dX0_copyFrom_133 rfl
def f_X0_copyFrom_16_1 (σ : St) : Option (St) :=
  bv (f_X2_copyFrom 18 3 (pI (pI (pI (pI (pI (pI (pI σ 16 0 (sI σ 1 0)) 16 1 (sI σ 1 1)) 16 2 (sI σ 1 2)) 16 3 (sI σ 1 3)) 16 4 (sI σ 1 4)) 16 5 (sI σ 1 5)) 16 6 (sI σ 1 6))) (fun σ64 => bv (f_X2_copyFrom 20 5 σ64) (fun σ75 => bv (f_X2_copyFrom 22 7 σ75) (fun σ86 => bv (f_X2_copyFrom 24 9 σ86) (fun σ97 => bv (f_X2_copyFrom 26 11 σ97) (fun σ108 => bv (f_X2_copyFrom 28 13 σ108) (fun σ119 => bv (f_X2_copyFrom 30 15 σ119) (fun σ130 => some σ130)))))))
set_option maxHeartbeats 4000000 in
set_option maxRecDepth 100000 in
theorem c_X0_copyFrom_16_1 (l : Launch) (G : GG) (σ : St) (res : St) (hf : f_X0_copyFrom_16_1 σ = some res) : CV l yX0_copyFrom wsX0_copyFrom 2 [.ref (G.2.1 16), .ref (G.2.1 1)] G σ (fun u => u = res) := by
  refine x_ent (ret := none) cX0_copyFrom 2 (by decide) rfl (Nat.le_of_ble_eq_true rfl) ?_
  intro p e s m below meth c ls C hR hS hl
  have C : Cx p s m [.ref (G.2.1 16), .ref (G.2.1 1)].toArray meth c cX0_copyFrom RX0 wsX0_copyFrom none 2 G := C
  have hx := C.1
  have hb := C.2.1
  have hl : lv_has ls 2 [(0, .ref (G.2.1 16)), (1, .ref (G.2.1 1))] := hl
  have inX0 : ∀ w ∈ u_ws RX0 TX0 14, w ∈ wsX0_copyFrom := fun w h => List.mem_cons_of_mem _ (List.mem_append_left _ (List.mem_append_right _ h))
  unfold f_X0_copyFrom_16_1 at hf
  refine lv_aload_n hx hb dX0_copyFrom_0 rfl (lv_at hl 0 rfl) ?_
  refine lv_aload_n hx hb dX0_copyFrom_1 rfl (lv_at hl 1 rfl) ?_
  refine x_get C hR inX0 1 (by decide) (cz0 rfl) rfl 0 (by decide) 1 rfl (.int (sI σ 1 0)) rfl dX0_copyFrom_2 ?_
  refine x_put (τ := (pI σ 16 0 (sI σ 1 0))) C hR hS inX0 tyX0 tyX0_ok nmX0 16 (by decide) (cz0 rfl) rfl 0 (by decide) (pfI0_0 rfl) pI_o 1 rfl rfl rfl rfl (Nat.le_of_ble_eq_true rfl) dX0_copyFrom_5 (fun H locs hR hS => ?_)
  refine lv_aload_n hx hb dX0_copyFrom_8 rfl (lv_at hl 0 rfl) ?_
  refine lv_aload_n hx hb dX0_copyFrom_9 rfl (lv_at hl 1 rfl) ?_
  refine x_get C hR inX0 1 (by decide) (cz0 rfl) rfl 1 (by decide) 2 rfl (.int (sI σ 1 1)) rfl dX0_copyFrom_10 ?_
  refine x_put (τ := (pI (pI σ 16 0 (sI σ 1 0)) 16 1 (sI σ 1 1))) C hR hS inX0 tyX0 tyX0_ok nmX0 16 (by decide) (cz0 rfl) rfl 1 (by decide) (pfI0_1 rfl) pI_o 2 rfl rfl rfl rfl (Nat.le_of_ble_eq_true rfl) dX0_copyFrom_13 (fun H locs hR hS => ?_)
  refine lv_aload_n hx hb dX0_copyFrom_16 rfl (lv_at hl 0 rfl) ?_
  refine lv_aload_n hx hb dX0_copyFrom_17 rfl (lv_at hl 1 rfl) ?_
  refine x_get C hR inX0 1 (by decide) (cz0 rfl) rfl 2 (by decide) 3 rfl (.int (sI σ 1 2)) rfl dX0_copyFrom_18 ?_
  refine x_put (τ := (pI (pI (pI σ 16 0 (sI σ 1 0)) 16 1 (sI σ 1 1)) 16 2 (sI σ 1 2))) C hR hS inX0 tyX0 tyX0_ok nmX0 16 (by decide) (cz0 rfl) rfl 2 (by decide) (pfI0_2 rfl) pI_o 3 rfl rfl rfl rfl (Nat.le_of_ble_eq_true rfl) dX0_copyFrom_21 (fun H locs hR hS => ?_)
  refine lv_aload_n hx hb dX0_copyFrom_24 rfl (lv_at hl 0 rfl) ?_
  refine lv_aload_n hx hb dX0_copyFrom_25 rfl (lv_at hl 1 rfl) ?_
  refine x_get C hR inX0 1 (by decide) (cz0 rfl) rfl 3 (by decide) 4 rfl (.int (sI σ 1 3)) rfl dX0_copyFrom_26 ?_
  refine x_put (τ := (pI (pI (pI (pI σ 16 0 (sI σ 1 0)) 16 1 (sI σ 1 1)) 16 2 (sI σ 1 2)) 16 3 (sI σ 1 3))) C hR hS inX0 tyX0 tyX0_ok nmX0 16 (by decide) (cz0 rfl) rfl 3 (by decide) (pfI0_3 rfl) pI_o 4 rfl rfl rfl rfl (Nat.le_of_ble_eq_true rfl) dX0_copyFrom_29 (fun H locs hR hS => ?_)
  refine lv_aload_n hx hb dX0_copyFrom_32 rfl (lv_at hl 0 rfl) ?_
  refine lv_aload_n hx hb dX0_copyFrom_33 rfl (lv_at hl 1 rfl) ?_
  refine x_get C hR inX0 1 (by decide) (cz0 rfl) rfl 4 (by decide) 5 rfl (.int (sI σ 1 4)) rfl dX0_copyFrom_34 ?_
  refine x_put (τ := (pI (pI (pI (pI (pI σ 16 0 (sI σ 1 0)) 16 1 (sI σ 1 1)) 16 2 (sI σ 1 2)) 16 3 (sI σ 1 3)) 16 4 (sI σ 1 4))) C hR hS inX0 tyX0 tyX0_ok nmX0 16 (by decide) (cz0 rfl) rfl 4 (by decide) (pfI0_4 rfl) pI_o 5 rfl rfl rfl rfl (Nat.le_of_ble_eq_true rfl) dX0_copyFrom_37 (fun H locs hR hS => ?_)
  refine lv_aload_n hx hb dX0_copyFrom_40 rfl (lv_at hl 0 rfl) ?_
  refine lv_aload_n hx hb dX0_copyFrom_41 rfl (lv_at hl 1 rfl) ?_
  refine x_get C hR inX0 1 (by decide) (cz0 rfl) rfl 5 (by decide) 6 rfl (.int (sI σ 1 5)) rfl dX0_copyFrom_42 ?_
  refine x_put (τ := (pI (pI (pI (pI (pI (pI σ 16 0 (sI σ 1 0)) 16 1 (sI σ 1 1)) 16 2 (sI σ 1 2)) 16 3 (sI σ 1 3)) 16 4 (sI σ 1 4)) 16 5 (sI σ 1 5))) C hR hS inX0 tyX0 tyX0_ok nmX0 16 (by decide) (cz0 rfl) rfl 5 (by decide) (pfI0_5 rfl) pI_o 6 rfl rfl rfl rfl (Nat.le_of_ble_eq_true rfl) dX0_copyFrom_45 (fun H locs hR hS => ?_)
  refine lv_aload_n hx hb dX0_copyFrom_48 rfl (lv_at hl 0 rfl) ?_
  refine lv_aload_n hx hb dX0_copyFrom_49 rfl (lv_at hl 1 rfl) ?_
  refine x_get C hR inX0 1 (by decide) (cz0 rfl) rfl 6 (by decide) 7 rfl (.int (sI σ 1 6)) rfl dX0_copyFrom_50 ?_
  refine x_put (τ := (pI (pI (pI (pI (pI (pI (pI σ 16 0 (sI σ 1 0)) 16 1 (sI σ 1 1)) 16 2 (sI σ 1 2)) 16 3 (sI σ 1 3)) 16 4 (sI σ 1 4)) 16 5 (sI σ 1 5)) 16 6 (sI σ 1 6))) C hR hS inX0 tyX0 tyX0_ok nmX0 16 (by decide) (cz0 rfl) rfl 6 (by decide) (pfI0_6 rfl) pI_o 7 rfl rfl rfl rfl (Nat.le_of_ble_eq_true rfl) dX0_copyFrom_53 (fun H locs hR hS => ?_)
  refine lv_aload_n hx hb dX0_copyFrom_56 rfl (lv_at hl 0 rfl) ?_
  refine x_get C hR inX0 16 (by decide) (cz0 rfl) rfl 7 (by decide) 8 rfl (.ref (G.2.1 17)) rfl dX0_copyFrom_57 ?_
  refine lv_aload_n hx hb dX0_copyFrom_60 rfl (lv_at hl 1 rfl) ?_
  refine x_get C hR inX0 1 (by decide) (cz0 rfl) rfl 7 (by decide) 8 rfl (.ref (G.2.1 2)) rfl dX0_copyFrom_61 ?_
  obtain ⟨σ64_, hc_64, hf⟩ := bv_some hf
  refine x_cvV C hl.1 hR hS (c_X2_copyFrom l G 18 3 17 rfl rfl rfl 2 rfl rfl rfl (pI (pI (pI (pI (pI (pI (pI σ 16 0 (sI σ 1 0)) 16 1 (sI σ 1 1)) 16 2 (sI σ 1 2)) 16 3 (sI σ 1 3)) 16 4 (sI σ 1 4)) 16 5 (sI σ 1 5)) 16 6 (sI σ 1 6)) _ hc_64) gX0_copyFrom_X2_copyFrom rfl hdV_X2_copyFrom ⟨Nat.le_of_ble_eq_true rfl, Nat.le_of_ble_eq_true rfl⟩ (by decide) (cz1 rfl) rfl rfl (As := [.ref (G.2.1 2)]) (rest := []) rfl (Nat.le_of_ble_eq_true rfl) ⟨Nat.le_of_ble_eq_true rfl, Nat.le_of_ble_eq_true rfl⟩ dX0_copyFrom_64 (fun σ64 H locs hq_64 hR hS => ?_)
  subst hq_64
  refine lv_aload_n hx hb dX0_copyFrom_67 rfl (lv_at hl 0 rfl) ?_
  refine x_get C hR inX0 16 (by decide) (cz0 rfl) rfl 8 (by decide) 9 rfl (.ref (G.2.1 19)) rfl dX0_copyFrom_68 ?_
  refine lv_aload_n hx hb dX0_copyFrom_71 rfl (lv_at hl 1 rfl) ?_
  refine x_get C hR inX0 1 (by decide) (cz0 rfl) rfl 8 (by decide) 9 rfl (.ref (G.2.1 4)) rfl dX0_copyFrom_72 ?_
  obtain ⟨σ75_, hc_75, hf⟩ := bv_some hf
  refine x_cvV C hl.1 hR hS (c_X2_copyFrom l G 20 5 19 rfl rfl rfl 4 rfl rfl rfl σ64 _ hc_75) gX0_copyFrom_X2_copyFrom rfl hdV_X2_copyFrom ⟨Nat.le_of_ble_eq_true rfl, Nat.le_of_ble_eq_true rfl⟩ (by decide) (cz1 rfl) rfl rfl (As := [.ref (G.2.1 4)]) (rest := []) rfl (Nat.le_of_ble_eq_true rfl) ⟨Nat.le_of_ble_eq_true rfl, Nat.le_of_ble_eq_true rfl⟩ dX0_copyFrom_75 (fun σ75 H locs hq_75 hR hS => ?_)
  subst hq_75
  refine lv_aload_n hx hb dX0_copyFrom_78 rfl (lv_at hl 0 rfl) ?_
  refine x_get C hR inX0 16 (by decide) (cz0 rfl) rfl 9 (by decide) 10 rfl (.ref (G.2.1 21)) rfl dX0_copyFrom_79 ?_
  refine lv_aload_n hx hb dX0_copyFrom_82 rfl (lv_at hl 1 rfl) ?_
  refine x_get C hR inX0 1 (by decide) (cz0 rfl) rfl 9 (by decide) 10 rfl (.ref (G.2.1 6)) rfl dX0_copyFrom_83 ?_
  obtain ⟨σ86_, hc_86, hf⟩ := bv_some hf
  refine x_cvV C hl.1 hR hS (c_X2_copyFrom l G 22 7 21 rfl rfl rfl 6 rfl rfl rfl σ75 _ hc_86) gX0_copyFrom_X2_copyFrom rfl hdV_X2_copyFrom ⟨Nat.le_of_ble_eq_true rfl, Nat.le_of_ble_eq_true rfl⟩ (by decide) (cz1 rfl) rfl rfl (As := [.ref (G.2.1 6)]) (rest := []) rfl (Nat.le_of_ble_eq_true rfl) ⟨Nat.le_of_ble_eq_true rfl, Nat.le_of_ble_eq_true rfl⟩ dX0_copyFrom_86 (fun σ86 H locs hq_86 hR hS => ?_)
  subst hq_86
  refine lv_aload_n hx hb dX0_copyFrom_89 rfl (lv_at hl 0 rfl) ?_
  refine x_get C hR inX0 16 (by decide) (cz0 rfl) rfl 10 (by decide) 11 rfl (.ref (G.2.1 23)) rfl dX0_copyFrom_90 ?_
  refine lv_aload_n hx hb dX0_copyFrom_93 rfl (lv_at hl 1 rfl) ?_
  refine x_get C hR inX0 1 (by decide) (cz0 rfl) rfl 10 (by decide) 11 rfl (.ref (G.2.1 8)) rfl dX0_copyFrom_94 ?_
  obtain ⟨σ97_, hc_97, hf⟩ := bv_some hf
  refine x_cvV C hl.1 hR hS (c_X2_copyFrom l G 24 9 23 rfl rfl rfl 8 rfl rfl rfl σ86 _ hc_97) gX0_copyFrom_X2_copyFrom rfl hdV_X2_copyFrom ⟨Nat.le_of_ble_eq_true rfl, Nat.le_of_ble_eq_true rfl⟩ (by decide) (cz1 rfl) rfl rfl (As := [.ref (G.2.1 8)]) (rest := []) rfl (Nat.le_of_ble_eq_true rfl) ⟨Nat.le_of_ble_eq_true rfl, Nat.le_of_ble_eq_true rfl⟩ dX0_copyFrom_97 (fun σ97 H locs hq_97 hR hS => ?_)
  subst hq_97
  refine lv_aload_n hx hb dX0_copyFrom_100 rfl (lv_at hl 0 rfl) ?_
  refine x_get C hR inX0 16 (by decide) (cz0 rfl) rfl 11 (by decide) 12 rfl (.ref (G.2.1 25)) rfl dX0_copyFrom_101 ?_
  refine lv_aload_n hx hb dX0_copyFrom_104 rfl (lv_at hl 1 rfl) ?_
  refine x_get C hR inX0 1 (by decide) (cz0 rfl) rfl 11 (by decide) 12 rfl (.ref (G.2.1 10)) rfl dX0_copyFrom_105 ?_
  obtain ⟨σ108_, hc_108, hf⟩ := bv_some hf
  refine x_cvV C hl.1 hR hS (c_X2_copyFrom l G 26 11 25 rfl rfl rfl 10 rfl rfl rfl σ97 _ hc_108) gX0_copyFrom_X2_copyFrom rfl hdV_X2_copyFrom ⟨Nat.le_of_ble_eq_true rfl, Nat.le_of_ble_eq_true rfl⟩ (by decide) (cz1 rfl) rfl rfl (As := [.ref (G.2.1 10)]) (rest := []) rfl (Nat.le_of_ble_eq_true rfl) ⟨Nat.le_of_ble_eq_true rfl, Nat.le_of_ble_eq_true rfl⟩ dX0_copyFrom_108 (fun σ108 H locs hq_108 hR hS => ?_)
  subst hq_108
  refine lv_aload_n hx hb dX0_copyFrom_111 rfl (lv_at hl 0 rfl) ?_
  refine x_get C hR inX0 16 (by decide) (cz0 rfl) rfl 12 (by decide) 13 rfl (.ref (G.2.1 27)) rfl dX0_copyFrom_112 ?_
  refine lv_aload_n hx hb dX0_copyFrom_115 rfl (lv_at hl 1 rfl) ?_
  refine x_get C hR inX0 1 (by decide) (cz0 rfl) rfl 12 (by decide) 13 rfl (.ref (G.2.1 12)) rfl dX0_copyFrom_116 ?_
  obtain ⟨σ119_, hc_119, hf⟩ := bv_some hf
  refine x_cvV C hl.1 hR hS (c_X2_copyFrom l G 28 13 27 rfl rfl rfl 12 rfl rfl rfl σ108 _ hc_119) gX0_copyFrom_X2_copyFrom rfl hdV_X2_copyFrom ⟨Nat.le_of_ble_eq_true rfl, Nat.le_of_ble_eq_true rfl⟩ (by decide) (cz1 rfl) rfl rfl (As := [.ref (G.2.1 12)]) (rest := []) rfl (Nat.le_of_ble_eq_true rfl) ⟨Nat.le_of_ble_eq_true rfl, Nat.le_of_ble_eq_true rfl⟩ dX0_copyFrom_119 (fun σ119 H locs hq_119 hR hS => ?_)
  subst hq_119
  refine lv_aload_n hx hb dX0_copyFrom_122 rfl (lv_at hl 0 rfl) ?_
  refine x_get C hR inX0 16 (by decide) (cz0 rfl) rfl 13 (by decide) 14 rfl (.ref (G.2.1 29)) rfl dX0_copyFrom_123 ?_
  refine lv_aload_n hx hb dX0_copyFrom_126 rfl (lv_at hl 1 rfl) ?_
  refine x_get C hR inX0 1 (by decide) (cz0 rfl) rfl 13 (by decide) 14 rfl (.ref (G.2.1 14)) rfl dX0_copyFrom_127 ?_
  obtain ⟨σ130_, hc_130, hf⟩ := bv_some hf
  refine x_cvV C hl.1 hR hS (c_X2_copyFrom l G 30 15 29 rfl rfl rfl 14 rfl rfl rfl σ119 _ hc_130) gX0_copyFrom_X2_copyFrom rfl hdV_X2_copyFrom ⟨Nat.le_of_ble_eq_true rfl, Nat.le_of_ble_eq_true rfl⟩ (by decide) (cz1 rfl) rfl rfl (As := [.ref (G.2.1 14)]) (rest := []) rfl (Nat.le_of_ble_eq_true rfl) ⟨Nat.le_of_ble_eq_true rfl, Nat.le_of_ble_eq_true rfl⟩ dX0_copyFrom_130 (fun σ130 H locs hq_130 hR hS => ?_)
  subst hq_130
  obtain rfl := Option.some.inj hf
  exact x_vret C hR hS dX0_copyFrom_133 rfl
def f_X0_copyFrom_31_1 (σ : St) : Option (St) :=
  bv (f_X2_copyFrom 33 3 (pI (pI (pI (pI (pI (pI (pI σ 31 0 (sI σ 1 0)) 31 1 (sI σ 1 1)) 31 2 (sI σ 1 2)) 31 3 (sI σ 1 3)) 31 4 (sI σ 1 4)) 31 5 (sI σ 1 5)) 31 6 (sI σ 1 6))) (fun σ64 => bv (f_X2_copyFrom 35 5 σ64) (fun σ75 => bv (f_X2_copyFrom 37 7 σ75) (fun σ86 => bv (f_X2_copyFrom 39 9 σ86) (fun σ97 => bv (f_X2_copyFrom 41 11 σ97) (fun σ108 => bv (f_X2_copyFrom 43 13 σ108) (fun σ119 => bv (f_X2_copyFrom 45 15 σ119) (fun σ130 => some σ130)))))))
set_option maxHeartbeats 4000000 in
set_option maxRecDepth 100000 in
theorem c_X0_copyFrom_31_1 (l : Launch) (G : GG) (σ : St) (res : St) (hf : f_X0_copyFrom_31_1 σ = some res) : CV l yX0_copyFrom wsX0_copyFrom 2 [.ref (G.2.1 31), .ref (G.2.1 1)] G σ (fun u => u = res) := by
  refine x_ent (ret := none) cX0_copyFrom 2 (by decide) rfl (Nat.le_of_ble_eq_true rfl) ?_
  intro p e s m below meth c ls C hR hS hl
  have C : Cx p s m [.ref (G.2.1 31), .ref (G.2.1 1)].toArray meth c cX0_copyFrom RX0 wsX0_copyFrom none 2 G := C
  have hx := C.1
  have hb := C.2.1
  have hl : lv_has ls 2 [(0, .ref (G.2.1 31)), (1, .ref (G.2.1 1))] := hl
  have inX0 : ∀ w ∈ u_ws RX0 TX0 14, w ∈ wsX0_copyFrom := fun w h => List.mem_cons_of_mem _ (List.mem_append_left _ (List.mem_append_right _ h))
  unfold f_X0_copyFrom_31_1 at hf
  refine lv_aload_n hx hb dX0_copyFrom_0 rfl (lv_at hl 0 rfl) ?_
  refine lv_aload_n hx hb dX0_copyFrom_1 rfl (lv_at hl 1 rfl) ?_
  refine x_get C hR inX0 1 (by decide) (cz0 rfl) rfl 0 (by decide) 1 rfl (.int (sI σ 1 0)) rfl dX0_copyFrom_2 ?_
  refine x_put (τ := (pI σ 31 0 (sI σ 1 0))) C hR hS inX0 tyX0 tyX0_ok nmX0 31 (by decide) (cz0 rfl) rfl 0 (by decide) (pfI0_0 rfl) pI_o 1 rfl rfl rfl rfl (Nat.le_of_ble_eq_true rfl) dX0_copyFrom_5 (fun H locs hR hS => ?_)
  refine lv_aload_n hx hb dX0_copyFrom_8 rfl (lv_at hl 0 rfl) ?_
  refine lv_aload_n hx hb dX0_copyFrom_9 rfl (lv_at hl 1 rfl) ?_
  refine x_get C hR inX0 1 (by decide) (cz0 rfl) rfl 1 (by decide) 2 rfl (.int (sI σ 1 1)) rfl dX0_copyFrom_10 ?_
  refine x_put (τ := (pI (pI σ 31 0 (sI σ 1 0)) 31 1 (sI σ 1 1))) C hR hS inX0 tyX0 tyX0_ok nmX0 31 (by decide) (cz0 rfl) rfl 1 (by decide) (pfI0_1 rfl) pI_o 2 rfl rfl rfl rfl (Nat.le_of_ble_eq_true rfl) dX0_copyFrom_13 (fun H locs hR hS => ?_)
  refine lv_aload_n hx hb dX0_copyFrom_16 rfl (lv_at hl 0 rfl) ?_
  refine lv_aload_n hx hb dX0_copyFrom_17 rfl (lv_at hl 1 rfl) ?_
  refine x_get C hR inX0 1 (by decide) (cz0 rfl) rfl 2 (by decide) 3 rfl (.int (sI σ 1 2)) rfl dX0_copyFrom_18 ?_
  refine x_put (τ := (pI (pI (pI σ 31 0 (sI σ 1 0)) 31 1 (sI σ 1 1)) 31 2 (sI σ 1 2))) C hR hS inX0 tyX0 tyX0_ok nmX0 31 (by decide) (cz0 rfl) rfl 2 (by decide) (pfI0_2 rfl) pI_o 3 rfl rfl rfl rfl (Nat.le_of_ble_eq_true rfl) dX0_copyFrom_21 (fun H locs hR hS => ?_)
  refine lv_aload_n hx hb dX0_copyFrom_24 rfl (lv_at hl 0 rfl) ?_
  refine lv_aload_n hx hb dX0_copyFrom_25 rfl (lv_at hl 1 rfl) ?_
  refine x_get C hR inX0 1 (by decide) (cz0 rfl) rfl 3 (by decide) 4 rfl (.int (sI σ 1 3)) rfl dX0_copyFrom_26 ?_
  refine x_put (τ := (pI (pI (pI (pI σ 31 0 (sI σ 1 0)) 31 1 (sI σ 1 1)) 31 2 (sI σ 1 2)) 31 3 (sI σ 1 3))) C hR hS inX0 tyX0 tyX0_ok nmX0 31 (by decide) (cz0 rfl) rfl 3 (by decide) (pfI0_3 rfl) pI_o 4 rfl rfl rfl rfl (Nat.le_of_ble_eq_true rfl) dX0_copyFrom_29 (fun H locs hR hS => ?_)
  refine lv_aload_n hx hb dX0_copyFrom_32 rfl (lv_at hl 0 rfl) ?_
  refine lv_aload_n hx hb dX0_copyFrom_33 rfl (lv_at hl 1 rfl) ?_
  refine x_get C hR inX0 1 (by decide) (cz0 rfl) rfl 4 (by decide) 5 rfl (.int (sI σ 1 4)) rfl dX0_copyFrom_34 ?_
  refine x_put (τ := (pI (pI (pI (pI (pI σ 31 0 (sI σ 1 0)) 31 1 (sI σ 1 1)) 31 2 (sI σ 1 2)) 31 3 (sI σ 1 3)) 31 4 (sI σ 1 4))) C hR hS inX0 tyX0 tyX0_ok nmX0 31 (by decide) (cz0 rfl) rfl 4 (by decide) (pfI0_4 rfl) pI_o 5 rfl rfl rfl rfl (Nat.le_of_ble_eq_true rfl) dX0_copyFrom_37 (fun H locs hR hS => ?_)
  refine lv_aload_n hx hb dX0_copyFrom_40 rfl (lv_at hl 0 rfl) ?_
  refine lv_aload_n hx hb dX0_copyFrom_41 rfl (lv_at hl 1 rfl) ?_
  refine x_get C hR inX0 1 (by decide) (cz0 rfl) rfl 5 (by decide) 6 rfl (.int (sI σ 1 5)) rfl dX0_copyFrom_42 ?_
  refine x_put (τ := (pI (pI (pI (pI (pI (pI σ 31 0 (sI σ 1 0)) 31 1 (sI σ 1 1)) 31 2 (sI σ 1 2)) 31 3 (sI σ 1 3)) 31 4 (sI σ 1 4)) 31 5 (sI σ 1 5))) C hR hS inX0 tyX0 tyX0_ok nmX0 31 (by decide) (cz0 rfl) rfl 5 (by decide) (pfI0_5 rfl) pI_o 6 rfl rfl rfl rfl (Nat.le_of_ble_eq_true rfl) dX0_copyFrom_45 (fun H locs hR hS => ?_)
  refine lv_aload_n hx hb dX0_copyFrom_48 rfl (lv_at hl 0 rfl) ?_
  refine lv_aload_n hx hb dX0_copyFrom_49 rfl (lv_at hl 1 rfl) ?_
  refine x_get C hR inX0 1 (by decide) (cz0 rfl) rfl 6 (by decide) 7 rfl (.int (sI σ 1 6)) rfl dX0_copyFrom_50 ?_
  refine x_put (τ := (pI (pI (pI (pI (pI (pI (pI σ 31 0 (sI σ 1 0)) 31 1 (sI σ 1 1)) 31 2 (sI σ 1 2)) 31 3 (sI σ 1 3)) 31 4 (sI σ 1 4)) 31 5 (sI σ 1 5)) 31 6 (sI σ 1 6))) C hR hS inX0 tyX0 tyX0_ok nmX0 31 (by decide) (cz0 rfl) rfl 6 (by decide) (pfI0_6 rfl) pI_o 7 rfl rfl rfl rfl (Nat.le_of_ble_eq_true rfl) dX0_copyFrom_53 (fun H locs hR hS => ?_)
  refine lv_aload_n hx hb dX0_copyFrom_56 rfl (lv_at hl 0 rfl) ?_
  refine x_get C hR inX0 31 (by decide) (cz0 rfl) rfl 7 (by decide) 8 rfl (.ref (G.2.1 32)) rfl dX0_copyFrom_57 ?_
  refine lv_aload_n hx hb dX0_copyFrom_60 rfl (lv_at hl 1 rfl) ?_
  refine x_get C hR inX0 1 (by decide) (cz0 rfl) rfl 7 (by decide) 8 rfl (.ref (G.2.1 2)) rfl dX0_copyFrom_61 ?_
  obtain ⟨σ64_, hc_64, hf⟩ := bv_some hf
  refine x_cvV C hl.1 hR hS (c_X2_copyFrom l G 33 3 32 rfl rfl rfl 2 rfl rfl rfl (pI (pI (pI (pI (pI (pI (pI σ 31 0 (sI σ 1 0)) 31 1 (sI σ 1 1)) 31 2 (sI σ 1 2)) 31 3 (sI σ 1 3)) 31 4 (sI σ 1 4)) 31 5 (sI σ 1 5)) 31 6 (sI σ 1 6)) _ hc_64) gX0_copyFrom_X2_copyFrom rfl hdV_X2_copyFrom ⟨Nat.le_of_ble_eq_true rfl, Nat.le_of_ble_eq_true rfl⟩ (by decide) (cz1 rfl) rfl rfl (As := [.ref (G.2.1 2)]) (rest := []) rfl (Nat.le_of_ble_eq_true rfl) ⟨Nat.le_of_ble_eq_true rfl, Nat.le_of_ble_eq_true rfl⟩ dX0_copyFrom_64 (fun σ64 H locs hq_64 hR hS => ?_)
  subst hq_64
  refine lv_aload_n hx hb dX0_copyFrom_67 rfl (lv_at hl 0 rfl) ?_
  refine x_get C hR inX0 31 (by decide) (cz0 rfl) rfl 8 (by decide) 9 rfl (.ref (G.2.1 34)) rfl dX0_copyFrom_68 ?_
  refine lv_aload_n hx hb dX0_copyFrom_71 rfl (lv_at hl 1 rfl) ?_
  refine x_get C hR inX0 1 (by decide) (cz0 rfl) rfl 8 (by decide) 9 rfl (.ref (G.2.1 4)) rfl dX0_copyFrom_72 ?_
  obtain ⟨σ75_, hc_75, hf⟩ := bv_some hf
  refine x_cvV C hl.1 hR hS (c_X2_copyFrom l G 35 5 34 rfl rfl rfl 4 rfl rfl rfl σ64 _ hc_75) gX0_copyFrom_X2_copyFrom rfl hdV_X2_copyFrom ⟨Nat.le_of_ble_eq_true rfl, Nat.le_of_ble_eq_true rfl⟩ (by decide) (cz1 rfl) rfl rfl (As := [.ref (G.2.1 4)]) (rest := []) rfl (Nat.le_of_ble_eq_true rfl) ⟨Nat.le_of_ble_eq_true rfl, Nat.le_of_ble_eq_true rfl⟩ dX0_copyFrom_75 (fun σ75 H locs hq_75 hR hS => ?_)
  subst hq_75
  refine lv_aload_n hx hb dX0_copyFrom_78 rfl (lv_at hl 0 rfl) ?_
  refine x_get C hR inX0 31 (by decide) (cz0 rfl) rfl 9 (by decide) 10 rfl (.ref (G.2.1 36)) rfl dX0_copyFrom_79 ?_
  refine lv_aload_n hx hb dX0_copyFrom_82 rfl (lv_at hl 1 rfl) ?_
  refine x_get C hR inX0 1 (by decide) (cz0 rfl) rfl 9 (by decide) 10 rfl (.ref (G.2.1 6)) rfl dX0_copyFrom_83 ?_
  obtain ⟨σ86_, hc_86, hf⟩ := bv_some hf
  refine x_cvV C hl.1 hR hS (c_X2_copyFrom l G 37 7 36 rfl rfl rfl 6 rfl rfl rfl σ75 _ hc_86) gX0_copyFrom_X2_copyFrom rfl hdV_X2_copyFrom ⟨Nat.le_of_ble_eq_true rfl, Nat.le_of_ble_eq_true rfl⟩ (by decide) (cz1 rfl) rfl rfl (As := [.ref (G.2.1 6)]) (rest := []) rfl (Nat.le_of_ble_eq_true rfl) ⟨Nat.le_of_ble_eq_true rfl, Nat.le_of_ble_eq_true rfl⟩ dX0_copyFrom_86 (fun σ86 H locs hq_86 hR hS => ?_)
  subst hq_86
  refine lv_aload_n hx hb dX0_copyFrom_89 rfl (lv_at hl 0 rfl) ?_
  refine x_get C hR inX0 31 (by decide) (cz0 rfl) rfl 10 (by decide) 11 rfl (.ref (G.2.1 38)) rfl dX0_copyFrom_90 ?_
  refine lv_aload_n hx hb dX0_copyFrom_93 rfl (lv_at hl 1 rfl) ?_
  refine x_get C hR inX0 1 (by decide) (cz0 rfl) rfl 10 (by decide) 11 rfl (.ref (G.2.1 8)) rfl dX0_copyFrom_94 ?_
  obtain ⟨σ97_, hc_97, hf⟩ := bv_some hf
  refine x_cvV C hl.1 hR hS (c_X2_copyFrom l G 39 9 38 rfl rfl rfl 8 rfl rfl rfl σ86 _ hc_97) gX0_copyFrom_X2_copyFrom rfl hdV_X2_copyFrom ⟨Nat.le_of_ble_eq_true rfl, Nat.le_of_ble_eq_true rfl⟩ (by decide) (cz1 rfl) rfl rfl (As := [.ref (G.2.1 8)]) (rest := []) rfl (Nat.le_of_ble_eq_true rfl) ⟨Nat.le_of_ble_eq_true rfl, Nat.le_of_ble_eq_true rfl⟩ dX0_copyFrom_97 (fun σ97 H locs hq_97 hR hS => ?_)
  subst hq_97
  refine lv_aload_n hx hb dX0_copyFrom_100 rfl (lv_at hl 0 rfl) ?_
  refine x_get C hR inX0 31 (by decide) (cz0 rfl) rfl 11 (by decide) 12 rfl (.ref (G.2.1 40)) rfl dX0_copyFrom_101 ?_
  refine lv_aload_n hx hb dX0_copyFrom_104 rfl (lv_at hl 1 rfl) ?_
  refine x_get C hR inX0 1 (by decide) (cz0 rfl) rfl 11 (by decide) 12 rfl (.ref (G.2.1 10)) rfl dX0_copyFrom_105 ?_
  obtain ⟨σ108_, hc_108, hf⟩ := bv_some hf
  refine x_cvV C hl.1 hR hS (c_X2_copyFrom l G 41 11 40 rfl rfl rfl 10 rfl rfl rfl σ97 _ hc_108) gX0_copyFrom_X2_copyFrom rfl hdV_X2_copyFrom ⟨Nat.le_of_ble_eq_true rfl, Nat.le_of_ble_eq_true rfl⟩ (by decide) (cz1 rfl) rfl rfl (As := [.ref (G.2.1 10)]) (rest := []) rfl (Nat.le_of_ble_eq_true rfl) ⟨Nat.le_of_ble_eq_true rfl, Nat.le_of_ble_eq_true rfl⟩ dX0_copyFrom_108 (fun σ108 H locs hq_108 hR hS => ?_)
  subst hq_108
  refine lv_aload_n hx hb dX0_copyFrom_111 rfl (lv_at hl 0 rfl) ?_
  refine x_get C hR inX0 31 (by decide) (cz0 rfl) rfl 12 (by decide) 13 rfl (.ref (G.2.1 42)) rfl dX0_copyFrom_112 ?_
  refine lv_aload_n hx hb dX0_copyFrom_115 rfl (lv_at hl 1 rfl) ?_
  refine x_get C hR inX0 1 (by decide) (cz0 rfl) rfl 12 (by decide) 13 rfl (.ref (G.2.1 12)) rfl dX0_copyFrom_116 ?_
  obtain ⟨σ119_, hc_119, hf⟩ := bv_some hf
  refine x_cvV C hl.1 hR hS (c_X2_copyFrom l G 43 13 42 rfl rfl rfl 12 rfl rfl rfl σ108 _ hc_119) gX0_copyFrom_X2_copyFrom rfl hdV_X2_copyFrom ⟨Nat.le_of_ble_eq_true rfl, Nat.le_of_ble_eq_true rfl⟩ (by decide) (cz1 rfl) rfl rfl (As := [.ref (G.2.1 12)]) (rest := []) rfl (Nat.le_of_ble_eq_true rfl) ⟨Nat.le_of_ble_eq_true rfl, Nat.le_of_ble_eq_true rfl⟩ dX0_copyFrom_119 (fun σ119 H locs hq_119 hR hS => ?_)
  subst hq_119
  refine lv_aload_n hx hb dX0_copyFrom_122 rfl (lv_at hl 0 rfl) ?_
  refine x_get C hR inX0 31 (by decide) (cz0 rfl) rfl 13 (by decide) 14 rfl (.ref (G.2.1 44)) rfl dX0_copyFrom_123 ?_
  refine lv_aload_n hx hb dX0_copyFrom_126 rfl (lv_at hl 1 rfl) ?_
  refine x_get C hR inX0 1 (by decide) (cz0 rfl) rfl 13 (by decide) 14 rfl (.ref (G.2.1 14)) rfl dX0_copyFrom_127 ?_
  obtain ⟨σ130_, hc_130, hf⟩ := bv_some hf
  refine x_cvV C hl.1 hR hS (c_X2_copyFrom l G 45 15 44 rfl rfl rfl 14 rfl rfl rfl σ119 _ hc_130) gX0_copyFrom_X2_copyFrom rfl hdV_X2_copyFrom ⟨Nat.le_of_ble_eq_true rfl, Nat.le_of_ble_eq_true rfl⟩ (by decide) (cz1 rfl) rfl rfl (As := [.ref (G.2.1 14)]) (rest := []) rfl (Nat.le_of_ble_eq_true rfl) ⟨Nat.le_of_ble_eq_true rfl, Nat.le_of_ble_eq_true rfl⟩ dX0_copyFrom_130 (fun σ130 H locs hq_130 hR hS => ?_)
  subst hq_130
  obtain rfl := Option.some.inj hf
  exact x_vret C hR hS dX0_copyFrom_133 rfl
theorem hdV_X0_has : yX0_has.cls = RX0 ∧ yX0_has.cls ≠ "java/lang/invoke/MethodHandle" ∧ yX0_has.cls ≠ "java/lang/invoke/VarHandle" ∧ (parseMethodDescriptor yX0_has.desc).map (fun d => d.parameters.length) = some 1 := by decide +kernel
def f_X0_has_1 (x1 : Int32) (σ : St) : Option (Int32 × St) :=
  bd (f_X5_within x1 0 ((sI σ 1 0) - 1) σ) (fun r8 σ8 => gb r8 (some (r8, σ8)))
set_option maxHeartbeats 4000000 in
set_option maxRecDepth 100000 in
theorem c_X0_has_1 (l : Launch) (G : GG) (x1 : Int32) (σ : St) (res : Int32 × St) (hf : f_X0_has_1 x1 σ = some res) : CI l yX0_has wsX0_has 1 [.ref (G.2.1 1), .int x1] G σ (fun r u => r = res.1 ∧ u = res.2) := by
  refine x_ent (ret := (some .boolean)) cX0_has 2 (by decide) rfl (Nat.le_of_ble_eq_true rfl) ?_
  intro p e s m below meth c ls C hR hS hl
  have C : Cx p s m [.ref (G.2.1 1), .int x1].toArray meth c cX0_has RX0 wsX0_has (some .boolean) 2 G := C
  have hx := C.1
  have hb := C.2.1
  have hl : lv_has ls 2 [(0, .ref (G.2.1 1)), (1, .int x1)] := hl
  have inX0 : ∀ w ∈ u_ws RX0 TX0 14, w ∈ wsX0_has := fun w h => List.mem_cons_of_mem _ (List.mem_append_right _ h)
  unfold f_X0_has_1 at hf
  refine lv_iload_n hx hb dX0_has_0 rfl (lv_at hl 1 rfl) ?_
  refine lv_iconst (v := 0) hx hb dX0_has_1 (by decide) ?_
  refine lv_aload_n hx hb dX0_has_2 rfl (lv_at hl 0 rfl) ?_
  refine x_get C hR inX0 1 (by decide) (cz0 rfl) rfl 0 (by decide) 1 rfl (.int (sI σ 1 0)) rfl dX0_has_3 ?_
  refine lv_iconst (v := 1) hx hb dX0_has_6 (by decide) ?_
  refine lv_isub hx hb dX0_has_7 ?_
  obtain ⟨r8_, σ8_, hc_8, hf⟩ := bd_some hf
  refine x_nsI C hl.1 hR hS (c_X5_within l G x1 0 ((sI σ 1 0) - 1) σ _ hc_8) gX0_has_X5_within_n64 C.2.2.2.2.2.2.2.2.1.2.1 3 2 rfl rfl rfl hdS_X5_within ⟨Nat.le_of_ble_eq_true rfl, Nat.le_of_ble_eq_true rfl⟩ rfl (As := [.int x1, .int 0, .int ((sI σ 1 0) - 1)]) (rest := []) rfl (Nat.le_of_ble_eq_true rfl) ⟨Nat.le_of_ble_eq_true rfl, Nat.le_of_ble_eq_true rfl⟩ dX0_has_8 (fun r8 σ8 H locs hq_8 hR hS => ?_)
  obtain ⟨rfl, rfl⟩ := hq_8
  obtain ⟨z_11, hf⟩ := gb_some hf
  obtain rfl := Option.some.inj hf
  exact x_zret C hR hS dX0_has_11 z_11 ⟨rfl, rfl⟩
theorem hdV_X0_standsOf : yX0_standsOf.cls = RX0 ∧ yX0_standsOf.cls ≠ "java/lang/invoke/MethodHandle" ∧ yX0_standsOf.cls ≠ "java/lang/invoke/VarHandle" ∧ (parseMethodDescriptor yX0_standsOf.desc).map (fun d => d.parameters.length) = some 1 := by decide +kernel
def f_X0_standsOf_1 (x1 : Int32) (σ : St) : Option (Int32 × St) :=
  some (((sI σ 1 2) >>> (x1 &&& 31)) &&& 1, σ)
set_option maxHeartbeats 4000000 in
set_option maxRecDepth 100000 in
theorem c_X0_standsOf_1 (l : Launch) (G : GG) (x1 : Int32) (σ : St) (res : Int32 × St) (hf : f_X0_standsOf_1 x1 σ = some res) : CI l yX0_standsOf wsX0_standsOf 0 [.ref (G.2.1 1), .int x1] G σ (fun r u => r = res.1 ∧ u = res.2) := by
  refine x_ent (ret := (some .int)) cX0_standsOf 2 (by decide) rfl (Nat.le_of_ble_eq_true rfl) ?_
  intro p e s m below meth c ls C hR hS hl
  have C : Cx p s m [.ref (G.2.1 1), .int x1].toArray meth c cX0_standsOf RX0 wsX0_standsOf (some .int) 2 G := C
  have hx := C.1
  have hb := C.2.1
  have hl : lv_has ls 2 [(0, .ref (G.2.1 1)), (1, .int x1)] := hl
  have inX0 : ∀ w ∈ u_ws RX0 TX0 14, w ∈ wsX0_standsOf := fun w h => List.mem_cons_of_mem _ (List.mem_append_right _ h)
  unfold f_X0_standsOf_1 at hf
  refine lv_aload_n hx hb dX0_standsOf_0 rfl (lv_at hl 0 rfl) ?_
  refine x_get C hR inX0 1 (by decide) (cz0 rfl) rfl 2 (by decide) 1 rfl (.int (sI σ 1 2)) rfl dX0_standsOf_1 ?_
  refine lv_iload_n hx hb dX0_standsOf_4 rfl (lv_at hl 1 rfl) ?_
  refine lv_ishr hx hb dX0_standsOf_5 ?_
  refine lv_iconst (v := 1) hx hb dX0_standsOf_6 (by decide) ?_
  refine lv_iand hx hb dX0_standsOf_7 ?_
  obtain rfl := Option.some.inj hf
  exact x_iret C hR hS dX0_standsOf_8 ⟨rfl, rfl⟩
theorem hdV_X0_allLocks : yX0_allLocks.cls = RX0 ∧ yX0_allLocks.cls ≠ "java/lang/invoke/MethodHandle" ∧ yX0_allLocks.cls ≠ "java/lang/invoke/VarHandle" ∧ (parseMethodDescriptor yX0_allLocks.desc).map (fun d => d.parameters.length) = some 0 := by decide +kernel
def f_X0_allLocks_1 (σ : St) : Option (Int32 × St) :=
  some ((1 <<< ((sI σ 1 0) &&& 31)) - 1, σ)
set_option maxHeartbeats 4000000 in
set_option maxRecDepth 100000 in
theorem c_X0_allLocks_1 (l : Launch) (G : GG) (σ : St) (res : Int32 × St) (hf : f_X0_allLocks_1 σ = some res) : CI l yX0_allLocks wsX0_allLocks 0 [.ref (G.2.1 1)] G σ (fun r u => r = res.1 ∧ u = res.2) := by
  refine x_ent (ret := (some .int)) cX0_allLocks 1 (by decide) rfl (Nat.le_of_ble_eq_true rfl) ?_
  intro p e s m below meth c ls C hR hS hl
  have C : Cx p s m [.ref (G.2.1 1)].toArray meth c cX0_allLocks RX0 wsX0_allLocks (some .int) 1 G := C
  have hx := C.1
  have hb := C.2.1
  have hl : lv_has ls 1 [(0, .ref (G.2.1 1))] := hl
  have inX0 : ∀ w ∈ u_ws RX0 TX0 14, w ∈ wsX0_allLocks := fun w h => List.mem_cons_of_mem _ (List.mem_append_right _ h)
  unfold f_X0_allLocks_1 at hf
  refine lv_iconst (v := 1) hx hb dX0_allLocks_0 (by decide) ?_
  refine lv_aload_n hx hb dX0_allLocks_1 rfl (lv_at hl 0 rfl) ?_
  refine x_get C hR inX0 1 (by decide) (cz0 rfl) rfl 0 (by decide) 1 rfl (.int (sI σ 1 0)) rfl dX0_allLocks_2 ?_
  refine lv_ishl hx hb dX0_allLocks_5 ?_
  refine lv_iconst (v := 1) hx hb dX0_allLocks_6 (by decide) ?_
  refine lv_isub hx hb dX0_allLocks_7 ?_
  obtain rfl := Option.some.inj hf
  exact x_iret C hR hS dX0_allLocks_8 ⟨rfl, rfl⟩
theorem hdV_X0_addLock : yX0_addLock.cls = RX0 ∧ yX0_addLock.cls ≠ "java/lang/invoke/MethodHandle" ∧ yX0_addLock.cls ≠ "java/lang/invoke/VarHandle" ∧ (parseMethodDescriptor yX0_addLock.desc).map (fun d => d.parameters.length) = some 3 := by decide +kernel
def f_X0_addLock_1 (x1 : Int32) (x2 : Int32) (x3 : Int32) (σ : St) : Option (St) :=
  bv (f_X2_put 3 (sI σ 1 0) x1 σ) (fun σ9 => bv (f_X2_put 5 (sI σ9 1 0) x3 σ9) (fun σ21 => some (pI (pI (pI σ21 1 2 ((sI σ21 1 2) ||| (x2 <<< ((sI σ21 1 0) &&& 31)))) 1 0 ((sI σ21 1 0) + 1)) 1 6 0)))
set_option maxHeartbeats 4000000 in
set_option maxRecDepth 100000 in
theorem c_X0_addLock_1 (l : Launch) (G : GG) (x1 : Int32) (x2 : Int32) (x3 : Int32) (σ : St) (res : St) (hf : f_X0_addLock_1 x1 x2 x3 σ = some res) : CV l yX0_addLock wsX0_addLock 1 [.ref (G.2.1 1), .int x1, .int x2, .int x3] G σ (fun u => u = res) := by
  refine x_ent (ret := none) cX0_addLock 4 (by decide) rfl (Nat.le_of_ble_eq_true rfl) ?_
  intro p e s m below meth c ls C hR hS hl
  have C : Cx p s m [.ref (G.2.1 1), .int x1, .int x2, .int x3].toArray meth c cX0_addLock RX0 wsX0_addLock none 4 G := C
  have hx := C.1
  have hb := C.2.1
  have hl : lv_has ls 4 [(0, .ref (G.2.1 1)), (1, .int x1), (2, .int x2), (3, .int x3)] := hl
  have inX0 : ∀ w ∈ u_ws RX0 TX0 14, w ∈ wsX0_addLock := fun w h => List.mem_cons_of_mem _ (List.mem_append_left _ (List.mem_append_right _ h))
  unfold f_X0_addLock_1 at hf
  refine lv_aload_n hx hb dX0_addLock_0 rfl (lv_at hl 0 rfl) ?_
  refine x_get C hR inX0 1 (by decide) (cz0 rfl) rfl 7 (by decide) 1 rfl (.ref (G.2.1 2)) rfl dX0_addLock_1 ?_
  refine lv_aload_n hx hb dX0_addLock_4 rfl (lv_at hl 0 rfl) ?_
  refine x_get C hR inX0 1 (by decide) (cz0 rfl) rfl 0 (by decide) 2 rfl (.int (sI σ 1 0)) rfl dX0_addLock_5 ?_
  refine lv_iload_n hx hb dX0_addLock_8 rfl (lv_at hl 1 rfl) ?_
  obtain ⟨σ9_, hc_9, hf⟩ := bv_some hf
  refine x_cvV C hl.1 hR hS (c_X2_put l G 3 2 rfl rfl rfl (sI σ 1 0) x1 σ _ hc_9) gX0_addLock_X2_put rfl hdV_X2_put ⟨Nat.le_of_ble_eq_true rfl, Nat.le_of_ble_eq_true rfl⟩ (by decide) (cz1 rfl) rfl rfl (As := [.int (sI σ 1 0), .int x1]) (rest := []) rfl (Nat.le_of_ble_eq_true rfl) ⟨Nat.le_of_ble_eq_true rfl, Nat.le_of_ble_eq_true rfl⟩ dX0_addLock_9 (fun σ9 H locs hq_9 hR hS => ?_)
  subst hq_9
  refine lv_aload_n hx hb dX0_addLock_12 rfl (lv_at hl 0 rfl) ?_
  refine x_get C hR inX0 1 (by decide) (cz0 rfl) rfl 8 (by decide) 3 rfl (.ref (G.2.1 4)) rfl dX0_addLock_13 ?_
  refine lv_aload_n hx hb dX0_addLock_16 rfl (lv_at hl 0 rfl) ?_
  refine x_get C hR inX0 1 (by decide) (cz0 rfl) rfl 0 (by decide) 2 rfl (.int (sI σ9 1 0)) rfl dX0_addLock_17 ?_
  refine lv_iload_n hx hb dX0_addLock_20 rfl (lv_at hl 3 rfl) ?_
  obtain ⟨σ21_, hc_21, hf⟩ := bv_some hf
  refine x_cvV C hl.1 hR hS (c_X2_put l G 5 4 rfl rfl rfl (sI σ9 1 0) x3 σ9 _ hc_21) gX0_addLock_X2_put rfl hdV_X2_put ⟨Nat.le_of_ble_eq_true rfl, Nat.le_of_ble_eq_true rfl⟩ (by decide) (cz1 rfl) rfl rfl (As := [.int (sI σ9 1 0), .int x3]) (rest := []) rfl (Nat.le_of_ble_eq_true rfl) ⟨Nat.le_of_ble_eq_true rfl, Nat.le_of_ble_eq_true rfl⟩ dX0_addLock_21 (fun σ21 H locs hq_21 hR hS => ?_)
  subst hq_21
  refine lv_aload_n hx hb dX0_addLock_24 rfl (lv_at hl 0 rfl) ?_
  refine lv_aload_n hx hb dX0_addLock_25 rfl (lv_at hl 0 rfl) ?_
  refine x_get C hR inX0 1 (by decide) (cz0 rfl) rfl 2 (by decide) 4 rfl (.int (sI σ21 1 2)) rfl dX0_addLock_26 ?_
  refine lv_iload_n hx hb dX0_addLock_29 rfl (lv_at hl 2 rfl) ?_
  refine lv_aload_n hx hb dX0_addLock_30 rfl (lv_at hl 0 rfl) ?_
  refine x_get C hR inX0 1 (by decide) (cz0 rfl) rfl 0 (by decide) 2 rfl (.int (sI σ21 1 0)) rfl dX0_addLock_31 ?_
  refine lv_ishl hx hb dX0_addLock_34 ?_
  refine lv_ior hx hb dX0_addLock_35 ?_
  refine x_put (τ := (pI σ21 1 2 ((sI σ21 1 2) ||| (x2 <<< ((sI σ21 1 0) &&& 31))))) C hR hS inX0 tyX0 tyX0_ok nmX0 1 (by decide) (cz0 rfl) rfl 2 (by decide) (pfI0_2 rfl) pI_o 4 rfl rfl rfl rfl (Nat.le_of_ble_eq_true rfl) dX0_addLock_36 (fun H locs hR hS => ?_)
  refine lv_aload_n hx hb dX0_addLock_39 rfl (lv_at hl 0 rfl) ?_
  refine lv_dup hx hb dX0_addLock_40 rfl ?_
  refine x_get C hR inX0 1 (by decide) (cz0 rfl) rfl 0 (by decide) 2 rfl (.int (sI σ21 1 0)) rfl dX0_addLock_41 ?_
  refine lv_iconst (v := 1) hx hb dX0_addLock_44 (by decide) ?_
  refine lv_iadd hx hb dX0_addLock_45 ?_
  refine x_put (τ := (pI (pI σ21 1 2 ((sI σ21 1 2) ||| (x2 <<< ((sI σ21 1 0) &&& 31)))) 1 0 ((sI σ21 1 0) + 1))) C hR hS inX0 tyX0 tyX0_ok nmX0 1 (by decide) (cz0 rfl) rfl 0 (by decide) (pfI0_0 rfl) pI_o 2 rfl rfl rfl rfl (Nat.le_of_ble_eq_true rfl) dX0_addLock_46 (fun H locs hR hS => ?_)
  refine lv_aload_n hx hb dX0_addLock_49 rfl (lv_at hl 0 rfl) ?_
  refine lv_iconst (v := 0) hx hb dX0_addLock_50 (by decide) ?_
  refine x_put (τ := (pI (pI (pI σ21 1 2 ((sI σ21 1 2) ||| (x2 <<< ((sI σ21 1 0) &&& 31)))) 1 0 ((sI σ21 1 0) + 1)) 1 6 0)) C hR hS inX0 tyX0 tyX0_ok nmX0 1 (by decide) (cz0 rfl) rfl 6 (by decide) (pfI0_6 rfl) pI_o 5 rfl rfl rfl rfl (Nat.le_of_ble_eq_true rfl) dX0_addLock_51 (fun H locs hR hS => ?_)
  obtain rfl := Option.some.inj hf
  exact x_vret C hR hS dX0_addLock_54 rfl
def f_X0_addLock_46 (x1 : Int32) (x2 : Int32) (x3 : Int32) (σ : St) : Option (St) :=
  bv (f_X2_put 48 (sI σ 46 0) x1 σ) (fun σ9 => bv (f_X2_put 50 (sI σ9 46 0) x3 σ9) (fun σ21 => some (pI (pI (pI σ21 46 2 ((sI σ21 46 2) ||| (x2 <<< ((sI σ21 46 0) &&& 31)))) 46 0 ((sI σ21 46 0) + 1)) 46 6 0)))
set_option maxHeartbeats 4000000 in
set_option maxRecDepth 100000 in
theorem c_X0_addLock_46 (l : Launch) (G : GG) (x1 : Int32) (x2 : Int32) (x3 : Int32) (σ : St) (res : St) (hf : f_X0_addLock_46 x1 x2 x3 σ = some res) : CV l yX0_addLock wsX0_addLock 1 [.ref (G.2.1 46), .int x1, .int x2, .int x3] G σ (fun u => u = res) := by
  refine x_ent (ret := none) cX0_addLock 4 (by decide) rfl (Nat.le_of_ble_eq_true rfl) ?_
  intro p e s m below meth c ls C hR hS hl
  have C : Cx p s m [.ref (G.2.1 46), .int x1, .int x2, .int x3].toArray meth c cX0_addLock RX0 wsX0_addLock none 4 G := C
  have hx := C.1
  have hb := C.2.1
  have hl : lv_has ls 4 [(0, .ref (G.2.1 46)), (1, .int x1), (2, .int x2), (3, .int x3)] := hl
  have inX0 : ∀ w ∈ u_ws RX0 TX0 14, w ∈ wsX0_addLock := fun w h => List.mem_cons_of_mem _ (List.mem_append_left _ (List.mem_append_right _ h))
  unfold f_X0_addLock_46 at hf
  refine lv_aload_n hx hb dX0_addLock_0 rfl (lv_at hl 0 rfl) ?_
  refine x_get C hR inX0 46 (by decide) (cz0 rfl) rfl 7 (by decide) 1 rfl (.ref (G.2.1 47)) rfl dX0_addLock_1 ?_
  refine lv_aload_n hx hb dX0_addLock_4 rfl (lv_at hl 0 rfl) ?_
  refine x_get C hR inX0 46 (by decide) (cz0 rfl) rfl 0 (by decide) 2 rfl (.int (sI σ 46 0)) rfl dX0_addLock_5 ?_
  refine lv_iload_n hx hb dX0_addLock_8 rfl (lv_at hl 1 rfl) ?_
  obtain ⟨σ9_, hc_9, hf⟩ := bv_some hf
  refine x_cvV C hl.1 hR hS (c_X2_put l G 48 47 rfl rfl rfl (sI σ 46 0) x1 σ _ hc_9) gX0_addLock_X2_put rfl hdV_X2_put ⟨Nat.le_of_ble_eq_true rfl, Nat.le_of_ble_eq_true rfl⟩ (by decide) (cz1 rfl) rfl rfl (As := [.int (sI σ 46 0), .int x1]) (rest := []) rfl (Nat.le_of_ble_eq_true rfl) ⟨Nat.le_of_ble_eq_true rfl, Nat.le_of_ble_eq_true rfl⟩ dX0_addLock_9 (fun σ9 H locs hq_9 hR hS => ?_)
  subst hq_9
  refine lv_aload_n hx hb dX0_addLock_12 rfl (lv_at hl 0 rfl) ?_
  refine x_get C hR inX0 46 (by decide) (cz0 rfl) rfl 8 (by decide) 3 rfl (.ref (G.2.1 49)) rfl dX0_addLock_13 ?_
  refine lv_aload_n hx hb dX0_addLock_16 rfl (lv_at hl 0 rfl) ?_
  refine x_get C hR inX0 46 (by decide) (cz0 rfl) rfl 0 (by decide) 2 rfl (.int (sI σ9 46 0)) rfl dX0_addLock_17 ?_
  refine lv_iload_n hx hb dX0_addLock_20 rfl (lv_at hl 3 rfl) ?_
  obtain ⟨σ21_, hc_21, hf⟩ := bv_some hf
  refine x_cvV C hl.1 hR hS (c_X2_put l G 50 49 rfl rfl rfl (sI σ9 46 0) x3 σ9 _ hc_21) gX0_addLock_X2_put rfl hdV_X2_put ⟨Nat.le_of_ble_eq_true rfl, Nat.le_of_ble_eq_true rfl⟩ (by decide) (cz1 rfl) rfl rfl (As := [.int (sI σ9 46 0), .int x3]) (rest := []) rfl (Nat.le_of_ble_eq_true rfl) ⟨Nat.le_of_ble_eq_true rfl, Nat.le_of_ble_eq_true rfl⟩ dX0_addLock_21 (fun σ21 H locs hq_21 hR hS => ?_)
  subst hq_21
  refine lv_aload_n hx hb dX0_addLock_24 rfl (lv_at hl 0 rfl) ?_
  refine lv_aload_n hx hb dX0_addLock_25 rfl (lv_at hl 0 rfl) ?_
  refine x_get C hR inX0 46 (by decide) (cz0 rfl) rfl 2 (by decide) 4 rfl (.int (sI σ21 46 2)) rfl dX0_addLock_26 ?_
  refine lv_iload_n hx hb dX0_addLock_29 rfl (lv_at hl 2 rfl) ?_
  refine lv_aload_n hx hb dX0_addLock_30 rfl (lv_at hl 0 rfl) ?_
  refine x_get C hR inX0 46 (by decide) (cz0 rfl) rfl 0 (by decide) 2 rfl (.int (sI σ21 46 0)) rfl dX0_addLock_31 ?_
  refine lv_ishl hx hb dX0_addLock_34 ?_
  refine lv_ior hx hb dX0_addLock_35 ?_
  refine x_put (τ := (pI σ21 46 2 ((sI σ21 46 2) ||| (x2 <<< ((sI σ21 46 0) &&& 31))))) C hR hS inX0 tyX0 tyX0_ok nmX0 46 (by decide) (cz0 rfl) rfl 2 (by decide) (pfI0_2 rfl) pI_o 4 rfl rfl rfl rfl (Nat.le_of_ble_eq_true rfl) dX0_addLock_36 (fun H locs hR hS => ?_)
  refine lv_aload_n hx hb dX0_addLock_39 rfl (lv_at hl 0 rfl) ?_
  refine lv_dup hx hb dX0_addLock_40 rfl ?_
  refine x_get C hR inX0 46 (by decide) (cz0 rfl) rfl 0 (by decide) 2 rfl (.int (sI σ21 46 0)) rfl dX0_addLock_41 ?_
  refine lv_iconst (v := 1) hx hb dX0_addLock_44 (by decide) ?_
  refine lv_iadd hx hb dX0_addLock_45 ?_
  refine x_put (τ := (pI (pI σ21 46 2 ((sI σ21 46 2) ||| (x2 <<< ((sI σ21 46 0) &&& 31)))) 46 0 ((sI σ21 46 0) + 1))) C hR hS inX0 tyX0 tyX0_ok nmX0 46 (by decide) (cz0 rfl) rfl 0 (by decide) (pfI0_0 rfl) pI_o 2 rfl rfl rfl rfl (Nat.le_of_ble_eq_true rfl) dX0_addLock_46 (fun H locs hR hS => ?_)
  refine lv_aload_n hx hb dX0_addLock_49 rfl (lv_at hl 0 rfl) ?_
  refine lv_iconst (v := 0) hx hb dX0_addLock_50 (by decide) ?_
  refine x_put (τ := (pI (pI (pI σ21 46 2 ((sI σ21 46 2) ||| (x2 <<< ((sI σ21 46 0) &&& 31)))) 46 0 ((sI σ21 46 0) + 1)) 46 6 0)) C hR hS inX0 tyX0 tyX0_ok nmX0 46 (by decide) (cz0 rfl) rfl 6 (by decide) (pfI0_6 rfl) pI_o 5 rfl rfl rfl rfl (Nat.le_of_ble_eq_true rfl) dX0_addLock_51 (fun H locs hR hS => ?_)
  obtain rfl := Option.some.inj hf
  exact x_vret C hR hS dX0_addLock_54 rfl
theorem hdV_X0_addReading : yX0_addReading.cls = RX0 ∧ yX0_addReading.cls ≠ "java/lang/invoke/MethodHandle" ∧ yX0_addReading.cls ≠ "java/lang/invoke/VarHandle" ∧ (parseMethodDescriptor yX0_addReading.desc).map (fun d => d.parameters.length) = some 2 := by decide +kernel
def f_X0_addReading_1 (x1 : Int32) (x2 : Int32) (σ : St) : Option (St) :=
  bv (f_X2_put 7 (sI σ 1 5) x1 σ) (fun σ9 => bv (f_X2_put 9 (sI σ9 1 5) x2 σ9) (fun σ21 => some (pI σ21 1 5 ((sI σ21 1 5) + 1))))
set_option maxHeartbeats 4000000 in
set_option maxRecDepth 100000 in
theorem c_X0_addReading_1 (l : Launch) (G : GG) (x1 : Int32) (x2 : Int32) (σ : St) (res : St) (hf : f_X0_addReading_1 x1 x2 σ = some res) : CV l yX0_addReading wsX0_addReading 1 [.ref (G.2.1 1), .int x1, .int x2] G σ (fun u => u = res) := by
  refine x_ent (ret := none) cX0_addReading 3 (by decide) rfl (Nat.le_of_ble_eq_true rfl) ?_
  intro p e s m below meth c ls C hR hS hl
  have C : Cx p s m [.ref (G.2.1 1), .int x1, .int x2].toArray meth c cX0_addReading RX0 wsX0_addReading none 3 G := C
  have hx := C.1
  have hb := C.2.1
  have hl : lv_has ls 3 [(0, .ref (G.2.1 1)), (1, .int x1), (2, .int x2)] := hl
  have inX0 : ∀ w ∈ u_ws RX0 TX0 14, w ∈ wsX0_addReading := fun w h => List.mem_cons_of_mem _ (List.mem_append_left _ (List.mem_append_right _ h))
  unfold f_X0_addReading_1 at hf
  refine lv_aload_n hx hb dX0_addReading_0 rfl (lv_at hl 0 rfl) ?_
  refine x_get C hR inX0 1 (by decide) (cz0 rfl) rfl 9 (by decide) 1 rfl (.ref (G.2.1 6)) rfl dX0_addReading_1 ?_
  refine lv_aload_n hx hb dX0_addReading_4 rfl (lv_at hl 0 rfl) ?_
  refine x_get C hR inX0 1 (by decide) (cz0 rfl) rfl 5 (by decide) 2 rfl (.int (sI σ 1 5)) rfl dX0_addReading_5 ?_
  refine lv_iload_n hx hb dX0_addReading_8 rfl (lv_at hl 1 rfl) ?_
  obtain ⟨σ9_, hc_9, hf⟩ := bv_some hf
  refine x_cvV C hl.1 hR hS (c_X2_put l G 7 6 rfl rfl rfl (sI σ 1 5) x1 σ _ hc_9) gX0_addReading_X2_put rfl hdV_X2_put ⟨Nat.le_of_ble_eq_true rfl, Nat.le_of_ble_eq_true rfl⟩ (by decide) (cz1 rfl) rfl rfl (As := [.int (sI σ 1 5), .int x1]) (rest := []) rfl (Nat.le_of_ble_eq_true rfl) ⟨Nat.le_of_ble_eq_true rfl, Nat.le_of_ble_eq_true rfl⟩ dX0_addReading_9 (fun σ9 H locs hq_9 hR hS => ?_)
  subst hq_9
  refine lv_aload_n hx hb dX0_addReading_12 rfl (lv_at hl 0 rfl) ?_
  refine x_get C hR inX0 1 (by decide) (cz0 rfl) rfl 10 (by decide) 3 rfl (.ref (G.2.1 8)) rfl dX0_addReading_13 ?_
  refine lv_aload_n hx hb dX0_addReading_16 rfl (lv_at hl 0 rfl) ?_
  refine x_get C hR inX0 1 (by decide) (cz0 rfl) rfl 5 (by decide) 2 rfl (.int (sI σ9 1 5)) rfl dX0_addReading_17 ?_
  refine lv_iload_n hx hb dX0_addReading_20 rfl (lv_at hl 2 rfl) ?_
  obtain ⟨σ21_, hc_21, hf⟩ := bv_some hf
  refine x_cvV C hl.1 hR hS (c_X2_put l G 9 8 rfl rfl rfl (sI σ9 1 5) x2 σ9 _ hc_21) gX0_addReading_X2_put rfl hdV_X2_put ⟨Nat.le_of_ble_eq_true rfl, Nat.le_of_ble_eq_true rfl⟩ (by decide) (cz1 rfl) rfl rfl (As := [.int (sI σ9 1 5), .int x2]) (rest := []) rfl (Nat.le_of_ble_eq_true rfl) ⟨Nat.le_of_ble_eq_true rfl, Nat.le_of_ble_eq_true rfl⟩ dX0_addReading_21 (fun σ21 H locs hq_21 hR hS => ?_)
  subst hq_21
  refine lv_aload_n hx hb dX0_addReading_24 rfl (lv_at hl 0 rfl) ?_
  refine lv_dup hx hb dX0_addReading_25 rfl ?_
  refine x_get C hR inX0 1 (by decide) (cz0 rfl) rfl 5 (by decide) 2 rfl (.int (sI σ21 1 5)) rfl dX0_addReading_26 ?_
  refine lv_iconst (v := 1) hx hb dX0_addReading_29 (by decide) ?_
  refine lv_iadd hx hb dX0_addReading_30 ?_
  refine x_put (τ := (pI σ21 1 5 ((sI σ21 1 5) + 1))) C hR hS inX0 tyX0 tyX0_ok nmX0 1 (by decide) (cz0 rfl) rfl 5 (by decide) (pfI0_5 rfl) pI_o 2 rfl rfl rfl rfl (Nat.le_of_ble_eq_true rfl) dX0_addReading_31 (fun H locs hR hS => ?_)
  obtain rfl := Option.some.inj hf
  exact x_vret C hR hS dX0_addReading_34 rfl
theorem hdV_X0_lockAt : yX0_lockAt.cls = RX0 ∧ yX0_lockAt.cls ≠ "java/lang/invoke/MethodHandle" ∧ yX0_lockAt.cls ≠ "java/lang/invoke/VarHandle" ∧ (parseMethodDescriptor yX0_lockAt.desc).map (fun d => d.parameters.length) = some 2 := by decide +kernel
def f_X0_lockAt_1 (x1 : Int32) (x2 : Int32) (σ : St) : Option (Int32 × St) :=
  (if x1 = 0 then some (x2, σ) else some (((sI σ 1 0) - 1) - x2, σ))
set_option maxHeartbeats 4000000 in
set_option maxRecDepth 100000 in
theorem c_X0_lockAt_1 (l : Launch) (G : GG) (x1 : Int32) (x2 : Int32) (σ : St) (res : Int32 × St) (hf : f_X0_lockAt_1 x1 x2 σ = some res) : CI l yX0_lockAt wsX0_lockAt 0 [.ref (G.2.1 1), .int x1, .int x2] G σ (fun r u => r = res.1 ∧ u = res.2) := by
  refine x_ent (ret := (some .int)) cX0_lockAt 3 (by decide) rfl (Nat.le_of_ble_eq_true rfl) ?_
  intro p e s m below meth c ls C hR hS hl
  have C : Cx p s m [.ref (G.2.1 1), .int x1, .int x2].toArray meth c cX0_lockAt RX0 wsX0_lockAt (some .int) 3 G := C
  have hx := C.1
  have hb := C.2.1
  have hl : lv_has ls 3 [(0, .ref (G.2.1 1)), (1, .int x1), (2, .int x2)] := hl
  have inX0 : ∀ w ∈ u_ws RX0 TX0 14, w ∈ wsX0_lockAt := fun w h => List.mem_cons_of_mem _ (List.mem_append_right _ h)
  unfold f_X0_lockAt_1 at hf
  refine lv_iload_n hx hb dX0_lockAt_0 rfl (lv_at hl 1 rfl) ?_
  refine lv_if_ne (tgt := 8) hx hb dX0_lockAt_1 (by decide) (fun c_1 => ?_) (fun c_1 => ?_)
  · replace hf := (if_neg c_1).symm.trans hf
    refine lv_aload_n hx hb dX0_lockAt_8 rfl (lv_at hl 0 rfl) ?_
    refine x_get C hR inX0 1 (by decide) (cz0 rfl) rfl 0 (by decide) 1 rfl (.int (sI σ 1 0)) rfl dX0_lockAt_9 ?_
    refine lv_iconst (v := 1) hx hb dX0_lockAt_12 (by decide) ?_
    refine lv_isub hx hb dX0_lockAt_13 ?_
    refine lv_iload_n hx hb dX0_lockAt_14 rfl (lv_at hl 2 rfl) ?_
    refine lv_isub hx hb dX0_lockAt_15 ?_
    obtain rfl := Option.some.inj hf
    exact x_iret C hR hS dX0_lockAt_16 ⟨rfl, rfl⟩
  · replace hf := (if_pos c_1).symm.trans hf
    refine lv_iload_n hx hb dX0_lockAt_4 rfl (lv_at hl 2 rfl) ?_
    refine lv_goto (tgt := 16) hx hb dX0_lockAt_5 (by decide) ?_
    obtain rfl := Option.some.inj hf
    exact x_iret C hR hS dX0_lockAt_16 ⟨rfl, rfl⟩
theorem hdV_X0_roadBehind : yX0_roadBehind.cls = RX0 ∧ yX0_roadBehind.cls ≠ "java/lang/invoke/MethodHandle" ∧ yX0_roadBehind.cls ≠ "java/lang/invoke/VarHandle" ∧ (parseMethodDescriptor yX0_roadBehind.desc).map (fun d => d.parameters.length) = some 2 := by decide +kernel
def f_X0_roadBehind_1 (x1 : Int32) (x2 : Int32) (σ : St) : Option (Int32 × St) :=
  bd (f_X0_lockAt_1 x1 x2 σ) (fun r7 σ7 => bd (f_X0_lockAt_1 x1 (x2 + 1) σ7) (fun r15 σ15 => bd (f_X2_get 5 (if r15 < r7 then r15 else r7) σ15) (fun r21 σ21 => some (r21, σ21))))
set_option maxHeartbeats 4000000 in
set_option maxRecDepth 100000 in
theorem c_X0_roadBehind_1 (l : Launch) (G : GG) (x1 : Int32) (x2 : Int32) (σ : St) (res : Int32 × St) (hf : f_X0_roadBehind_1 x1 x2 σ = some res) : CI l yX0_roadBehind wsX0_roadBehind 1 [.ref (G.2.1 1), .int x1, .int x2] G σ (fun r u => r = res.1 ∧ u = res.2) := by
  refine x_ent (ret := (some .int)) cX0_roadBehind 3 (by decide) rfl (Nat.le_of_ble_eq_true rfl) ?_
  intro p e s m below meth c ls C hR hS hl
  have C : Cx p s m [.ref (G.2.1 1), .int x1, .int x2].toArray meth c cX0_roadBehind RX0 wsX0_roadBehind (some .int) 3 G := C
  have hx := C.1
  have hb := C.2.1
  have hl : lv_has ls 3 [(0, .ref (G.2.1 1)), (1, .int x1), (2, .int x2)] := hl
  have inX0 : ∀ w ∈ u_ws RX0 TX0 14, w ∈ wsX0_roadBehind := fun w h => List.mem_cons_of_mem _ (List.mem_append_left _ (List.mem_append_right _ h))
  unfold f_X0_roadBehind_1 at hf
  refine lv_aload_n hx hb dX0_roadBehind_0 rfl (lv_at hl 0 rfl) ?_
  refine x_get C hR inX0 1 (by decide) (cz0 rfl) rfl 8 (by decide) 1 rfl (.ref (G.2.1 4)) rfl dX0_roadBehind_1 ?_
  refine lv_aload_n hx hb dX0_roadBehind_4 rfl (lv_at hl 0 rfl) ?_
  refine lv_iload_n hx hb dX0_roadBehind_5 rfl (lv_at hl 1 rfl) ?_
  refine lv_iload_n hx hb dX0_roadBehind_6 rfl (lv_at hl 2 rfl) ?_
  obtain ⟨r7_, σ7_, hc_7, hf⟩ := bd_some hf
  refine x_cvI C hl.1 hR hS (c_X0_lockAt_1 l G x1 x2 σ _ hc_7) gX0_roadBehind_X0_lockAt rfl hdV_X0_lockAt ⟨Nat.le_of_ble_eq_true rfl, Nat.le_of_ble_eq_true rfl⟩ (by decide) (cz0 rfl) rfl rfl (As := [.int x1, .int x2]) (rest := [.ref (G.2.1 4)]) rfl (Nat.le_of_ble_eq_true rfl) ⟨Nat.le_of_ble_eq_true rfl, Nat.le_of_ble_eq_true rfl⟩ dX0_roadBehind_7 (fun r7 σ7 H locs hq_7 hR hS => ?_)
  obtain ⟨rfl, rfl⟩ := hq_7
  refine lv_aload_n hx hb dX0_roadBehind_10 rfl (lv_at hl 0 rfl) ?_
  refine lv_iload_n hx hb dX0_roadBehind_11 rfl (lv_at hl 1 rfl) ?_
  refine lv_iload_n hx hb dX0_roadBehind_12 rfl (lv_at hl 2 rfl) ?_
  refine lv_iconst (v := 1) hx hb dX0_roadBehind_13 (by decide) ?_
  refine lv_iadd hx hb dX0_roadBehind_14 ?_
  obtain ⟨r15_, σ15_, hc_15, hf⟩ := bd_some hf
  refine x_cvI C hl.1 hR hS (c_X0_lockAt_1 l G x1 (x2 + 1) σ7 _ hc_15) gX0_roadBehind_X0_lockAt rfl hdV_X0_lockAt ⟨Nat.le_of_ble_eq_true rfl, Nat.le_of_ble_eq_true rfl⟩ (by decide) (cz0 rfl) rfl rfl (As := [.int x1, .int (x2 + 1)]) (rest := [.int r7, .ref (G.2.1 4)]) rfl (Nat.le_of_ble_eq_true rfl) ⟨Nat.le_of_ble_eq_true rfl, Nat.le_of_ble_eq_true rfl⟩ dX0_roadBehind_15 (fun r15 σ15 H locs hq_15 hR hS => ?_)
  obtain ⟨rfl, rfl⟩ := hq_15
  refine va_mmin hx hb (C.2.2.2.1.trans hl.1.symm) C.2.2.2.2.1 (C.2.2.2.2.2.1 _ (List.mem_of_getElem? (i := 2) rfl)) (C.2.2.2.2.2.1 _ (List.mem_of_getElem? (i := 3) rfl)) (C.2.2.2.2.2.1 _ (List.mem_of_getElem? (i := 4) rfl)) (C.2.2.2.2.2.1 _ (List.mem_of_getElem? (i := 5) rfl)) (Nat.le_of_ble_eq_true rfl) (Nat.le_of_ble_eq_true rfl) (Nat.le_of_ble_eq_true rfl) (Nat.le_of_ble_eq_true rfl) dX0_roadBehind_18 ?_
  obtain ⟨r21_, σ21_, hc_21, hf⟩ := bd_some hf
  refine x_cvI C hl.1 hR hS (c_X2_get l G 5 4 rfl rfl rfl (if r15 < r7 then r15 else r7) σ15 _ hc_21) gX0_roadBehind_X2_get rfl hdV_X2_get ⟨Nat.le_of_ble_eq_true rfl, Nat.le_of_ble_eq_true rfl⟩ (by decide) (cz1 rfl) rfl rfl (As := [.int (if r15 < r7 then r15 else r7)]) (rest := []) rfl (Nat.le_of_ble_eq_true rfl) ⟨Nat.le_of_ble_eq_true rfl, Nat.le_of_ble_eq_true rfl⟩ dX0_roadBehind_21 (fun r21 σ21 H locs hq_21 hR hS => ?_)
  obtain ⟨rfl, rfl⟩ := hq_21
  obtain rfl := Option.some.inj hf
  exact x_iret C hR hS dX0_roadBehind_24 ⟨rfl, rfl⟩
theorem hdV_X0_locksFrom : yX0_locksFrom.cls = RX0 ∧ yX0_locksFrom.cls ≠ "java/lang/invoke/MethodHandle" ∧ yX0_locksFrom.cls ≠ "java/lang/invoke/VarHandle" ∧ (parseMethodDescriptor yX0_locksFrom.desc).map (fun d => d.parameters.length) = some 2 := by decide +kernel
def f_X0_locksFrom_1_5 : Nat → Int32 → Int32 → Int32 → St → Option (Int32 × St)
  | 0, _, _, _, _ => none
  | n + 1, x1, x3, x4, σ => (if (sI σ 1 0) ≤ x4 then some (x3, σ) else bd (f_X0_lockAt_1 x1 x4 σ) (fun r20 σ20 => (f_X0_locksFrom_1_5 n) x1 (x3 ||| (1 <<< (r20 &&& 31))) (x4 + 1) σ20))
def f_X0_locksFrom_1 (x1 : Int32) (x2 : Int32) (σ : St) : Option (Int32 × St) :=
  f_X0_locksFrom_1_5 FU x1 0 x2 σ
set_option maxHeartbeats 4000000 in
set_option maxRecDepth 100000 in
theorem w_X0_locksFrom_1_5 {p : Program} {l : Launch} {e : Env} {s : State} {m : MethodId} {args : Array Value} {below : List Frame} {meth : Method} {c : Code} {G : GG} (C : Cx p s m args meth c cX0_locksFrom RX0 wsX0_locksFrom (some .int) 5 G) {res : Int32 × St} : ∀ (n : Nat) (x1 : Int32) (x3 : Int32) (x4 : Int32) (σ : St), f_X0_locksFrom_1_5 n x1 x3 x4 σ = some res → WC p l e 1 s m args below meth c G (QI G res) 5 5 [(0, .ref (G.2.1 1)), (1, .int x1), (3, .int x3), (4, .int x4)] [] σ := by
  have hx := C.1
  have hb := C.2.1
  have inX0 : ∀ w ∈ u_ws RX0 TX0 14, w ∈ wsX0_locksFrom := fun w h => List.mem_cons_of_mem _ (List.mem_append_right _ h)
  intro n
  induction n with
  | zero => intro x1 x3 x4 σ hf; cases hf
  | succ n hrc5 =>
    intro x1 x3 x4 σ hf _ _ _ hR hS hl
    unfold f_X0_locksFrom_1_5 at hf
    refine lv_iload hx hb dX0_locksFrom_5 (lv_at hl 3 rfl) ?_
    refine lv_aload_n hx hb dX0_locksFrom_7 rfl (lv_at hl 0 rfl) ?_
    refine x_get C hR inX0 1 (by decide) (cz0 rfl) rfl 0 (by decide) 1 rfl (.int (sI σ 1 0)) rfl dX0_locksFrom_8 ?_
    refine lv_icmp_ge (tgt := 32) hx hb dX0_locksFrom_11 (by decide) (fun c_11 => ?_) (fun c_11 => ?_)
    · replace hf := (if_pos c_11).symm.trans hf
      refine lv_iload_n hx hb dX0_locksFrom_32 rfl (lv_at hl 2 rfl) ?_
      obtain rfl := Option.some.inj hf
      exact x_iret C hR hS dX0_locksFrom_33 ⟨rfl, rfl⟩
    · replace hf := (if_neg c_11).symm.trans hf
      refine lv_iload_n hx hb dX0_locksFrom_14 rfl (lv_at hl 2 rfl) ?_
      refine lv_iconst (v := 1) hx hb dX0_locksFrom_15 (by decide) ?_
      refine lv_aload_n hx hb dX0_locksFrom_16 rfl (lv_at hl 0 rfl) ?_
      refine lv_iload_n hx hb dX0_locksFrom_17 rfl (lv_at hl 1 rfl) ?_
      refine lv_iload hx hb dX0_locksFrom_18 (lv_at hl 3 rfl) ?_
      obtain ⟨r20_, σ20_, hc_20, hf⟩ := bd_some hf
      refine x_cvI C hl.1 hR hS (c_X0_lockAt_1 l G x1 x4 σ _ hc_20) gX0_locksFrom_X0_lockAt rfl hdV_X0_lockAt ⟨Nat.le_of_ble_eq_true rfl, Nat.le_of_ble_eq_true rfl⟩ (by decide) (cz0 rfl) rfl rfl (As := [.int x1, .int x4]) (rest := [.int 1, .int x3]) rfl (Nat.le_of_ble_eq_true rfl) ⟨Nat.le_of_ble_eq_true rfl, Nat.le_of_ble_eq_true rfl⟩ dX0_locksFrom_20 (fun r20 σ20 H locs hq_20 hR hS => ?_)
      obtain ⟨rfl, rfl⟩ := hq_20
      refine lv_ishl hx hb dX0_locksFrom_23 ?_
      refine lv_ior hx hb dX0_locksFrom_24 ?_
      refine lv_istore_n (lv' := [(3, .int (x3 ||| (1 <<< (r20 &&& 31)))), (0, .ref (G.2.1 1)), (1, .int x1), (4, .int x4)]) hx hb dX0_locksFrom_25 rfl hl (by decide) rfl (fun ls hl => ?_)
      refine lv_iinc (v := x4 + 1) (lv' := [(4, .int (x4 + 1)), (3, .int (x3 ||| (1 <<< (r20 &&& 31)))), (0, .ref (G.2.1 1)), (1, .int x1)]) hx hb dX0_locksFrom_26 hl (k := 3) rfl rfl (by decide) rfl (fun ls hl => ?_)
      refine lv_goto (tgt := 5) hx hb dX0_locksFrom_29 (by decide) ?_
      exact hrc5 x1 (x3 ||| (1 <<< (r20 &&& 31))) (x4 + 1) _ hf _ _ _ hR hS (lv_sub hl [2, 3, 1, 0] rfl)
set_option maxHeartbeats 4000000 in
set_option maxRecDepth 100000 in
theorem c_X0_locksFrom_1 (l : Launch) (G : GG) (x1 : Int32) (x2 : Int32) (σ : St) (res : Int32 × St) (hf : f_X0_locksFrom_1 x1 x2 σ = some res) : CI l yX0_locksFrom wsX0_locksFrom 1 [.ref (G.2.1 1), .int x1, .int x2] G σ (fun r u => r = res.1 ∧ u = res.2) := by
  refine x_ent (ret := (some .int)) cX0_locksFrom 5 (by decide) rfl (Nat.le_of_ble_eq_true rfl) ?_
  intro p e s m below meth c ls C hR hS hl
  have C : Cx p s m [.ref (G.2.1 1), .int x1, .int x2].toArray meth c cX0_locksFrom RX0 wsX0_locksFrom (some .int) 5 G := C
  have hx := C.1
  have hb := C.2.1
  have hl : lv_has ls 5 [(0, .ref (G.2.1 1)), (1, .int x1), (2, .int x2)] := hl
  have inX0 : ∀ w ∈ u_ws RX0 TX0 14, w ∈ wsX0_locksFrom := fun w h => List.mem_cons_of_mem _ (List.mem_append_right _ h)
  unfold f_X0_locksFrom_1 at hf
  refine lv_iconst (v := 0) hx hb dX0_locksFrom_0 (by decide) ?_
  refine lv_istore_n (lv' := [(3, .int 0), (0, .ref (G.2.1 1)), (1, .int x1), (2, .int x2)]) hx hb dX0_locksFrom_1 rfl hl (by decide) rfl (fun ls hl => ?_)
  refine lv_iload_n hx hb dX0_locksFrom_2 rfl (lv_at hl 3 rfl) ?_
  refine lv_istore (lv' := [(4, .int x2), (3, .int 0), (0, .ref (G.2.1 1)), (1, .int x1), (2, .int x2)]) hx hb dX0_locksFrom_3 hl (by decide) rfl (fun ls hl => ?_)
  exact w_X0_locksFrom_1_5 C  FU x1 0 x2 _ hf _ _ _ hR hS (lv_sub hl [2, 3, 1, 0] rfl)
theorem hdV_X0_remember : yX0_remember.cls = RX0 ∧ yX0_remember.cls ≠ "java/lang/invoke/MethodHandle" ∧ yX0_remember.cls ≠ "java/lang/invoke/VarHandle" ∧ (parseMethodDescriptor yX0_remember.desc).map (fun d => d.parameters.length) = some 0 := by decide +kernel
def f_X0_remember_1_36 (σ : St) : Option (St) :=
  bv (f_X2_put 11 (sI σ 1 6) (sI σ 1 2) σ) (fun σ48 => bv (f_X2_put 13 (sI σ48 1 6) (sI σ48 1 3) σ48) (fun σ63 => bv (f_X2_put 15 (sI σ63 1 6) (sI σ63 1 4) σ63) (fun σ78 => some (pI σ78 1 6 ((sI σ78 1 6) + 1)))))
def f_X0_remember_1 (σ : St) : Option (St) :=
  (if (sI σ 1 6) < 8 then f_X0_remember_1_36 σ else bv (f_X2_dropFirst 11 σ) (fun σ13 => bv (f_X2_dropFirst 13 σ13) (fun σ20 => bv (f_X2_dropFirst 15 σ20) (fun σ27 => f_X0_remember_1_36 (pI σ27 1 6 7)))))
set_option maxHeartbeats 4000000 in
set_option maxRecDepth 100000 in
theorem w_X0_remember_1_36 {p : Program} {l : Launch} {e : Env} {s : State} {m : MethodId} {args : Array Value} {below : List Frame} {meth : Method} {c : Code} {G : GG} (C : Cx p s m args meth c cX0_remember RX0 wsX0_remember none 1 G) {res : St} : ∀ (σ : St), f_X0_remember_1_36  σ = some res → WC p l e 1 s m args below meth c G (QV G res) 1 36 [(0, .ref (G.2.1 1))] [] σ := by
  have hx := C.1
  have hb := C.2.1
  have inX0 : ∀ w ∈ u_ws RX0 TX0 14, w ∈ wsX0_remember := fun w h => List.mem_cons_of_mem _ (List.mem_append_left _ (List.mem_append_right _ h))
  intro  σ hf _ _ _ hR hS hl
  unfold f_X0_remember_1_36 at hf
  refine lv_aload_n hx hb dX0_remember_36 rfl (lv_at hl 0 rfl) ?_
  refine x_get C hR inX0 1 (by decide) (cz0 rfl) rfl 11 (by decide) 2 rfl (.ref (G.2.1 10)) rfl dX0_remember_37 ?_
  refine lv_aload_n hx hb dX0_remember_40 rfl (lv_at hl 0 rfl) ?_
  refine x_get C hR inX0 1 (by decide) (cz0 rfl) rfl 6 (by decide) 1 rfl (.int (sI σ 1 6)) rfl dX0_remember_41 ?_
  refine lv_aload_n hx hb dX0_remember_44 rfl (lv_at hl 0 rfl) ?_
  refine x_get C hR inX0 1 (by decide) (cz0 rfl) rfl 2 (by decide) 5 rfl (.int (sI σ 1 2)) rfl dX0_remember_45 ?_
  obtain ⟨σ48_, hc_48, hf⟩ := bv_some hf
  refine x_cvV C hl.1 hR hS (c_X2_put l G 11 10 rfl rfl rfl (sI σ 1 6) (sI σ 1 2) σ _ hc_48) gX0_remember_X2_put rfl hdV_X2_put ⟨Nat.le_of_ble_eq_true rfl, Nat.le_of_ble_eq_true rfl⟩ (by decide) (cz1 rfl) rfl rfl (As := [.int (sI σ 1 6), .int (sI σ 1 2)]) (rest := []) rfl (Nat.le_of_ble_eq_true rfl) ⟨Nat.le_of_ble_eq_true rfl, Nat.le_of_ble_eq_true rfl⟩ dX0_remember_48 (fun σ48 H locs hq_48 hR hS => ?_)
  subst hq_48
  refine lv_aload_n hx hb dX0_remember_51 rfl (lv_at hl 0 rfl) ?_
  refine x_get C hR inX0 1 (by decide) (cz0 rfl) rfl 12 (by decide) 3 rfl (.ref (G.2.1 12)) rfl dX0_remember_52 ?_
  refine lv_aload_n hx hb dX0_remember_55 rfl (lv_at hl 0 rfl) ?_
  refine x_get C hR inX0 1 (by decide) (cz0 rfl) rfl 6 (by decide) 1 rfl (.int (sI σ48 1 6)) rfl dX0_remember_56 ?_
  refine lv_aload_n hx hb dX0_remember_59 rfl (lv_at hl 0 rfl) ?_
  refine x_get C hR inX0 1 (by decide) (cz0 rfl) rfl 3 (by decide) 6 rfl (.int (sI σ48 1 3)) rfl dX0_remember_60 ?_
  obtain ⟨σ63_, hc_63, hf⟩ := bv_some hf
  refine x_cvV C hl.1 hR hS (c_X2_put l G 13 12 rfl rfl rfl (sI σ48 1 6) (sI σ48 1 3) σ48 _ hc_63) gX0_remember_X2_put rfl hdV_X2_put ⟨Nat.le_of_ble_eq_true rfl, Nat.le_of_ble_eq_true rfl⟩ (by decide) (cz1 rfl) rfl rfl (As := [.int (sI σ48 1 6), .int (sI σ48 1 3)]) (rest := []) rfl (Nat.le_of_ble_eq_true rfl) ⟨Nat.le_of_ble_eq_true rfl, Nat.le_of_ble_eq_true rfl⟩ dX0_remember_63 (fun σ63 H locs hq_63 hR hS => ?_)
  subst hq_63
  refine lv_aload_n hx hb dX0_remember_66 rfl (lv_at hl 0 rfl) ?_
  refine x_get C hR inX0 1 (by decide) (cz0 rfl) rfl 13 (by decide) 4 rfl (.ref (G.2.1 14)) rfl dX0_remember_67 ?_
  refine lv_aload_n hx hb dX0_remember_70 rfl (lv_at hl 0 rfl) ?_
  refine x_get C hR inX0 1 (by decide) (cz0 rfl) rfl 6 (by decide) 1 rfl (.int (sI σ63 1 6)) rfl dX0_remember_71 ?_
  refine lv_aload_n hx hb dX0_remember_74 rfl (lv_at hl 0 rfl) ?_
  refine x_get C hR inX0 1 (by decide) (cz0 rfl) rfl 4 (by decide) 7 rfl (.int (sI σ63 1 4)) rfl dX0_remember_75 ?_
  obtain ⟨σ78_, hc_78, hf⟩ := bv_some hf
  refine x_cvV C hl.1 hR hS (c_X2_put l G 15 14 rfl rfl rfl (sI σ63 1 6) (sI σ63 1 4) σ63 _ hc_78) gX0_remember_X2_put rfl hdV_X2_put ⟨Nat.le_of_ble_eq_true rfl, Nat.le_of_ble_eq_true rfl⟩ (by decide) (cz1 rfl) rfl rfl (As := [.int (sI σ63 1 6), .int (sI σ63 1 4)]) (rest := []) rfl (Nat.le_of_ble_eq_true rfl) ⟨Nat.le_of_ble_eq_true rfl, Nat.le_of_ble_eq_true rfl⟩ dX0_remember_78 (fun σ78 H locs hq_78 hR hS => ?_)
  subst hq_78
  refine lv_aload_n hx hb dX0_remember_81 rfl (lv_at hl 0 rfl) ?_
  refine lv_dup hx hb dX0_remember_82 rfl ?_
  refine x_get C hR inX0 1 (by decide) (cz0 rfl) rfl 6 (by decide) 1 rfl (.int (sI σ78 1 6)) rfl dX0_remember_83 ?_
  refine lv_iconst (v := 1) hx hb dX0_remember_86 (by decide) ?_
  refine lv_iadd hx hb dX0_remember_87 ?_
  refine x_put (τ := (pI σ78 1 6 ((sI σ78 1 6) + 1))) C hR hS inX0 tyX0 tyX0_ok nmX0 1 (by decide) (cz0 rfl) rfl 6 (by decide) (pfI0_6 rfl) pI_o 1 rfl rfl rfl rfl (Nat.le_of_ble_eq_true rfl) dX0_remember_88 (fun H locs hR hS => ?_)
  obtain rfl := Option.some.inj hf
  exact x_vret C hR hS dX0_remember_91 rfl
set_option maxHeartbeats 4000000 in
set_option maxRecDepth 100000 in
theorem c_X0_remember_1 (l : Launch) (G : GG) (σ : St) (res : St) (hf : f_X0_remember_1 σ = some res) : CV l yX0_remember wsX0_remember 1 [.ref (G.2.1 1)] G σ (fun u => u = res) := by
  refine x_ent (ret := none) cX0_remember 1 (by decide) rfl (Nat.le_of_ble_eq_true rfl) ?_
  intro p e s m below meth c ls C hR hS hl
  have C : Cx p s m [.ref (G.2.1 1)].toArray meth c cX0_remember RX0 wsX0_remember none 1 G := C
  have hx := C.1
  have hb := C.2.1
  have hl : lv_has ls 1 [(0, .ref (G.2.1 1))] := hl
  have inX0 : ∀ w ∈ u_ws RX0 TX0 14, w ∈ wsX0_remember := fun w h => List.mem_cons_of_mem _ (List.mem_append_left _ (List.mem_append_right _ h))
  unfold f_X0_remember_1 at hf
  refine lv_aload_n hx hb dX0_remember_0 rfl (lv_at hl 0 rfl) ?_
  refine x_get C hR inX0 1 (by decide) (cz0 rfl) rfl 6 (by decide) 1 rfl (.int (sI σ 1 6)) rfl dX0_remember_1 ?_
  refine lv_bipush (v := 8) hx hb dX0_remember_4 (by decide) ?_
  refine lv_icmp_lt (tgt := 36) hx hb dX0_remember_6 (by decide) (fun c_6 => ?_) (fun c_6 => ?_)
  · replace hf := (if_pos c_6).symm.trans hf
    exact w_X0_remember_1_36 C  _ hf _ _ _ hR hS (lv_sub hl [0] rfl)
  · replace hf := (if_neg c_6).symm.trans hf
    refine lv_aload_n hx hb dX0_remember_9 rfl (lv_at hl 0 rfl) ?_
    refine x_get C hR inX0 1 (by decide) (cz0 rfl) rfl 11 (by decide) 2 rfl (.ref (G.2.1 10)) rfl dX0_remember_10 ?_
    obtain ⟨σ13_, hc_13, hf⟩ := bv_some hf
    refine x_cvV C hl.1 hR hS (c_X2_dropFirst l G 11 10 rfl rfl rfl σ _ hc_13) gX0_remember_X2_dropFirst rfl hdV_X2_dropFirst ⟨Nat.le_of_ble_eq_true rfl, Nat.le_of_ble_eq_true rfl⟩ (by decide) (cz1 rfl) rfl rfl (As := []) (rest := []) rfl (Nat.le_of_ble_eq_true rfl) ⟨Nat.le_of_ble_eq_true rfl, Nat.le_of_ble_eq_true rfl⟩ dX0_remember_13 (fun σ13 H locs hq_13 hR hS => ?_)
    subst hq_13
    refine lv_aload_n hx hb dX0_remember_16 rfl (lv_at hl 0 rfl) ?_
    refine x_get C hR inX0 1 (by decide) (cz0 rfl) rfl 12 (by decide) 3 rfl (.ref (G.2.1 12)) rfl dX0_remember_17 ?_
    obtain ⟨σ20_, hc_20, hf⟩ := bv_some hf
    refine x_cvV C hl.1 hR hS (c_X2_dropFirst l G 13 12 rfl rfl rfl σ13 _ hc_20) gX0_remember_X2_dropFirst rfl hdV_X2_dropFirst ⟨Nat.le_of_ble_eq_true rfl, Nat.le_of_ble_eq_true rfl⟩ (by decide) (cz1 rfl) rfl rfl (As := []) (rest := []) rfl (Nat.le_of_ble_eq_true rfl) ⟨Nat.le_of_ble_eq_true rfl, Nat.le_of_ble_eq_true rfl⟩ dX0_remember_20 (fun σ20 H locs hq_20 hR hS => ?_)
    subst hq_20
    refine lv_aload_n hx hb dX0_remember_23 rfl (lv_at hl 0 rfl) ?_
    refine x_get C hR inX0 1 (by decide) (cz0 rfl) rfl 13 (by decide) 4 rfl (.ref (G.2.1 14)) rfl dX0_remember_24 ?_
    obtain ⟨σ27_, hc_27, hf⟩ := bv_some hf
    refine x_cvV C hl.1 hR hS (c_X2_dropFirst l G 15 14 rfl rfl rfl σ20 _ hc_27) gX0_remember_X2_dropFirst rfl hdV_X2_dropFirst ⟨Nat.le_of_ble_eq_true rfl, Nat.le_of_ble_eq_true rfl⟩ (by decide) (cz1 rfl) rfl rfl (As := []) (rest := []) rfl (Nat.le_of_ble_eq_true rfl) ⟨Nat.le_of_ble_eq_true rfl, Nat.le_of_ble_eq_true rfl⟩ dX0_remember_27 (fun σ27 H locs hq_27 hR hS => ?_)
    subst hq_27
    refine lv_aload_n hx hb dX0_remember_30 rfl (lv_at hl 0 rfl) ?_
    refine lv_bipush (v := 7) hx hb dX0_remember_31 (by decide) ?_
    refine x_put (τ := (pI σ27 1 6 7)) C hR hS inX0 tyX0 tyX0_ok nmX0 1 (by decide) (cz0 rfl) rfl 6 (by decide) (pfI0_6 rfl) pI_o 1 rfl rfl rfl rfl (Nat.le_of_ble_eq_true rfl) dX0_remember_33 (fun H locs hR hS => ?_)
    exact w_X0_remember_1_36 C  _ hf _ _ _ hR hS (lv_sub hl [0] rfl)
theorem hdV_X0_goBack : yX0_goBack.cls = RX0 ∧ yX0_goBack.cls ≠ "java/lang/invoke/MethodHandle" ∧ yX0_goBack.cls ≠ "java/lang/invoke/VarHandle" ∧ (parseMethodDescriptor yX0_goBack.desc).map (fun d => d.parameters.length) = some 0 := by decide +kernel
def f_X0_goBack_1 (σ : St) : Option (St) :=
  bd (f_X2_get 11 ((sI σ 1 6) - 1) (pI σ 1 6 ((sI σ 1 6) - 1))) (fun r19 σ19 => bd (f_X2_get 13 (sI σ19 1 6) (pI σ19 1 2 r19)) (fun r34 σ34 => bd (f_X2_get 15 (sI σ34 1 6) (pI σ34 1 3 r34)) (fun r49 σ49 => some (pI σ49 1 4 r49))))
set_option maxHeartbeats 4000000 in
set_option maxRecDepth 100000 in
theorem c_X0_goBack_1 (l : Launch) (G : GG) (σ : St) (res : St) (hf : f_X0_goBack_1 σ = some res) : CV l yX0_goBack wsX0_goBack 1 [.ref (G.2.1 1)] G σ (fun u => u = res) := by
  refine x_ent (ret := none) cX0_goBack 1 (by decide) rfl (Nat.le_of_ble_eq_true rfl) ?_
  intro p e s m below meth c ls C hR hS hl
  have C : Cx p s m [.ref (G.2.1 1)].toArray meth c cX0_goBack RX0 wsX0_goBack none 1 G := C
  have hx := C.1
  have hb := C.2.1
  have hl : lv_has ls 1 [(0, .ref (G.2.1 1))] := hl
  have inX0 : ∀ w ∈ u_ws RX0 TX0 14, w ∈ wsX0_goBack := fun w h => List.mem_cons_of_mem _ (List.mem_append_left _ (List.mem_append_right _ h))
  unfold f_X0_goBack_1 at hf
  refine lv_aload_n hx hb dX0_goBack_0 rfl (lv_at hl 0 rfl) ?_
  refine lv_dup hx hb dX0_goBack_1 rfl ?_
  refine x_get C hR inX0 1 (by decide) (cz0 rfl) rfl 6 (by decide) 1 rfl (.int (sI σ 1 6)) rfl dX0_goBack_2 ?_
  refine lv_iconst (v := 1) hx hb dX0_goBack_5 (by decide) ?_
  refine lv_isub hx hb dX0_goBack_6 ?_
  refine x_put (τ := (pI σ 1 6 ((sI σ 1 6) - 1))) C hR hS inX0 tyX0 tyX0_ok nmX0 1 (by decide) (cz0 rfl) rfl 6 (by decide) (pfI0_6 rfl) pI_o 1 rfl rfl rfl rfl (Nat.le_of_ble_eq_true rfl) dX0_goBack_7 (fun H locs hR hS => ?_)
  refine lv_aload_n hx hb dX0_goBack_10 rfl (lv_at hl 0 rfl) ?_
  refine lv_aload_n hx hb dX0_goBack_11 rfl (lv_at hl 0 rfl) ?_
  refine x_get C hR inX0 1 (by decide) (cz0 rfl) rfl 11 (by decide) 2 rfl (.ref (G.2.1 10)) rfl dX0_goBack_12 ?_
  refine lv_aload_n hx hb dX0_goBack_15 rfl (lv_at hl 0 rfl) ?_
  refine x_get C hR inX0 1 (by decide) (cz0 rfl) rfl 6 (by decide) 1 rfl (.int ((sI σ 1 6) - 1)) rfl dX0_goBack_16 ?_
  obtain ⟨r19_, σ19_, hc_19, hf⟩ := bd_some hf
  refine x_cvI C hl.1 hR hS (c_X2_get l G 11 10 rfl rfl rfl ((sI σ 1 6) - 1) (pI σ 1 6 ((sI σ 1 6) - 1)) _ hc_19) gX0_goBack_X2_get rfl hdV_X2_get ⟨Nat.le_of_ble_eq_true rfl, Nat.le_of_ble_eq_true rfl⟩ (by decide) (cz1 rfl) rfl rfl (As := [.int ((sI σ 1 6) - 1)]) (rest := [.ref (G.2.1 1)]) rfl (Nat.le_of_ble_eq_true rfl) ⟨Nat.le_of_ble_eq_true rfl, Nat.le_of_ble_eq_true rfl⟩ dX0_goBack_19 (fun r19 σ19 H locs hq_19 hR hS => ?_)
  obtain ⟨rfl, rfl⟩ := hq_19
  refine x_put (τ := (pI σ19 1 2 r19)) C hR hS inX0 tyX0 tyX0_ok nmX0 1 (by decide) (cz0 rfl) rfl 2 (by decide) (pfI0_2 rfl) pI_o 3 rfl rfl rfl rfl (Nat.le_of_ble_eq_true rfl) dX0_goBack_22 (fun H locs hR hS => ?_)
  refine lv_aload_n hx hb dX0_goBack_25 rfl (lv_at hl 0 rfl) ?_
  refine lv_aload_n hx hb dX0_goBack_26 rfl (lv_at hl 0 rfl) ?_
  refine x_get C hR inX0 1 (by decide) (cz0 rfl) rfl 12 (by decide) 4 rfl (.ref (G.2.1 12)) rfl dX0_goBack_27 ?_
  refine lv_aload_n hx hb dX0_goBack_30 rfl (lv_at hl 0 rfl) ?_
  refine x_get C hR inX0 1 (by decide) (cz0 rfl) rfl 6 (by decide) 1 rfl (.int (sI σ19 1 6)) rfl dX0_goBack_31 ?_
  obtain ⟨r34_, σ34_, hc_34, hf⟩ := bd_some hf
  refine x_cvI C hl.1 hR hS (c_X2_get l G 13 12 rfl rfl rfl (sI σ19 1 6) (pI σ19 1 2 r19) _ hc_34) gX0_goBack_X2_get rfl hdV_X2_get ⟨Nat.le_of_ble_eq_true rfl, Nat.le_of_ble_eq_true rfl⟩ (by decide) (cz1 rfl) rfl rfl (As := [.int (sI σ19 1 6)]) (rest := [.ref (G.2.1 1)]) rfl (Nat.le_of_ble_eq_true rfl) ⟨Nat.le_of_ble_eq_true rfl, Nat.le_of_ble_eq_true rfl⟩ dX0_goBack_34 (fun r34 σ34 H locs hq_34 hR hS => ?_)
  obtain ⟨rfl, rfl⟩ := hq_34
  refine x_put (τ := (pI σ34 1 3 r34)) C hR hS inX0 tyX0 tyX0_ok nmX0 1 (by decide) (cz0 rfl) rfl 3 (by decide) (pfI0_3 rfl) pI_o 5 rfl rfl rfl rfl (Nat.le_of_ble_eq_true rfl) dX0_goBack_37 (fun H locs hR hS => ?_)
  refine lv_aload_n hx hb dX0_goBack_40 rfl (lv_at hl 0 rfl) ?_
  refine lv_aload_n hx hb dX0_goBack_41 rfl (lv_at hl 0 rfl) ?_
  refine x_get C hR inX0 1 (by decide) (cz0 rfl) rfl 13 (by decide) 6 rfl (.ref (G.2.1 14)) rfl dX0_goBack_42 ?_
  refine lv_aload_n hx hb dX0_goBack_45 rfl (lv_at hl 0 rfl) ?_
  refine x_get C hR inX0 1 (by decide) (cz0 rfl) rfl 6 (by decide) 1 rfl (.int (sI σ34 1 6)) rfl dX0_goBack_46 ?_
  obtain ⟨r49_, σ49_, hc_49, hf⟩ := bd_some hf
  refine x_cvI C hl.1 hR hS (c_X2_get l G 15 14 rfl rfl rfl (sI σ34 1 6) (pI σ34 1 3 r34) _ hc_49) gX0_goBack_X2_get rfl hdV_X2_get ⟨Nat.le_of_ble_eq_true rfl, Nat.le_of_ble_eq_true rfl⟩ (by decide) (cz1 rfl) rfl rfl (As := [.int (sI σ34 1 6)]) (rest := [.ref (G.2.1 1)]) rfl (Nat.le_of_ble_eq_true rfl) ⟨Nat.le_of_ble_eq_true rfl, Nat.le_of_ble_eq_true rfl⟩ dX0_goBack_49 (fun r49 σ49 H locs hq_49 hR hS => ?_)
  obtain ⟨rfl, rfl⟩ := hq_49
  refine x_put (τ := (pI σ49 1 4 r49)) C hR hS inX0 tyX0 tyX0_ok nmX0 1 (by decide) (cz0 rfl) rfl 4 (by decide) (pfI0_4 rfl) pI_o 7 rfl rfl rfl rfl (Nat.le_of_ble_eq_true rfl) dX0_goBack_52 (fun H locs hR hS => ?_)
  obtain rfl := Option.some.inj hf
  exact x_vret C hR hS dX0_goBack_55 rfl
