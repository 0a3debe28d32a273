/-! constructors: a trip -/
def flTP (h0 : Nat) (u : (Nat → Nat) × ClassId) : va_W := [(h0, .inr (3, [.int 0, .int 0, .int 1, .int 0, .int 5, .int 0, .int 0, .int 0, .int 0, .ref (u.1 1), .ref (u.1 3), .ref (u.1 5), .ref (u.1 7), .ref (u.1 9)])), (u.1 1, .inr (1, [.ref (u.1 2)])), (u.1 2, .inl (u.2, 8, .inl (fun _ => 0))), (u.1 3, .inr (1, [.ref (u.1 4)])), (u.1 4, .inl (u.2, 8, .inl (fun _ => 0))), (u.1 5, .inr (1, [.ref (u.1 6)])), (u.1 6, .inl (u.2, 8, .inl (fun _ => 0))), (u.1 7, .inr (1, [.ref (u.1 8)])), (u.1 8, .inl (u.2, 8, .inl (fun _ => 0))), (u.1 9, .inr (1, [.ref (u.1 10)])), (u.1 10, .inl (u.2, 8, .inl (fun _ => 0)))]
def atTP (D : va_G) (A : Nat → Prop) (h0 : Nat) (u : (Nat → Nat) × ClassId) (t : State) : Prop := va_P D vwCl (flTP h0 u) t.heap ∧ va_K D vwCl [(u.2, .int)] t ∧ va_D A (flTP h0 u)
set_option maxHeartbeats 4000000 in
set_option maxRecDepth 100000 in
theorem c_X4_init (l : Launch) (D : va_G) (h0 sz : Nat) : Met l yX4_init wsX4_init ({ frames := 3, cells := 10, slots := 45, locals := 72 }) (va_Pc [.ref h0] (fun U => U.heap.size = sz ∧ va_P D vwCl [(h0, .inr (3, [.int 0, .int 0, .int 0, .int 0, .int 0, .int 0, .int 0, .int 0, .int 0, .null, .null, .null, .null, .null]))] U.heap ∧ va_K D vwCl [] U ∧ va_D (fun _ => True) [(h0, .inr (3, [.int 0, .int 0, .int 0, .int 0, .int 0, .int 0, .int 0, .int 0, .int 0, .null, .null, .null, .null, .null]))])) (va_Qv (fun _ : (Nat → Nat) × ClassId => True) (atTP D (va_A [(h0, .inr (3, [.int 0, .int 0, .int 0, .int 0, .int 0, .int 0, .int 0, .int 0, .int 0, .null, .null, .null, .null, .null]))] sz) h0) (va_A [(h0, .inr (3, [.int 0, .int 0, .int 0, .int 0, .int 0, .int 0, .int 0, .int 0, .int 0, .null, .null, .null, .null, .null]))] sz)) 10 45 (va_A [(h0, .inr (3, [.int 0, .int 0, .int 0, .int 0, .int 0, .int 0, .int 0, .int 0, .int 0, .null, .null, .null, .null, .null]))] sz) := by
  refine Met.ofW (cc := cX4_init) (maxL := 1) (ret := none) (by decide) rfl ?_
  intro p e s m args below meth c s₁ B hml hv
  obtain ⟨rfl, hsz, hP, hK, hD0⟩ := hv
  have hx := B.exec
  have hb := B.bytes
  have hr := B.returns
  have hts := atoms_spec (ws := wsX4_init) B.pre
  have hown : s.vm.findClass RX4 = some m.cls := findClass_of_methodNamed B.named
  have hin : meth.name = "<init>" := (name_of_methodNamed B.named B.method).1
  have in0 : ∀ w ∈ u_ws RX4 TX4 14, w ∈ wsX4_init := fun w h => List.mem_cons_of_mem _ (List.mem_append_left _ (List.mem_append_right _ h))
  have in2 : ∀ w ∈ u_ws RX2 TX2 1, w ∈ wsX4_init := fun w h => List.mem_cons_of_mem _ (List.mem_append_right _ h)
  subst hsz
  have hD := hD0.self (sz := s.heap.size)
  generalize hAe : va_A [(h0, .inr (3, [.int 0, .int 0, .int 0, .int 0, .int 0, .int 0, .int 0, .int 0, .int 0, .null, .null, .null, .null, .null]))] s.heap.size = A at hD ⊢
  have hA : ∀ q : Nat, s.heap.size ≤ q → A q := fun q h => by rw [← hAe]; exact Or.inr h
  have hS : va_S A s.heap s.heap [] := va_S.rf
  have hP : va_P D vwCl [(h0, .inr (3, [.int 0, .int 0, .int 0, .int 0, .int 0, .int 0, .int 0, .int 0, .int 0, .null, .null, .null, .null, .null]))] s.heap := hP
  have hl := lv_entry ([.ref h0]) (n := 1) (Nat.le_of_ble_eq_true rfl)
  rw [lg_entry_eq]
  generalize (lg_sl ([.ref h0]) ++ List.replicate (1 - (lg_sl ([.ref h0])).length) Slot.unset).toArray = ls at hl ⊢
  have hl : lv_has ls 1 [(0, .ref h0)] := hl
  refine lv_aload_n hx hb dX4_init_0 rfl (lv_at hl 0 rfl) ?_
  refine W.objInit hx hb hown (hts _ (List.mem_of_getElem? (i := 1) rfl)) (hts _ (List.mem_of_getElem? (i := 2) rfl)) (hts _ (List.mem_of_getElem? (i := 3) rfl)) rfl (by rw [hml]; exact hl.1) rfl dX4_init_1 (Nat.le_of_ble_eq_true rfl) (Nat.le_of_ble_eq_true rfl) ?_
  refine W.eq (g2 := F0 m 4 ls []) rfl ?_
  refine lv_aload_n hx hb dX4_init_4 rfl (lv_at hl 0 rfl) ?_
  refine lv_iconst (v := 0) hx hb dX4_init_5 (by decide) ?_
  refine va_put (D := D) (ci := 3) (v := .int 0) (ty := .int) (C := RX4) (T := TX4) (N := 14) hx hb hts in0 tyX4 tyX4_ok nmX4 hown hK hP hD hS 0 rfl rfl 0 (by decide) (hts _ (List.mem_of_getElem? (i := 4) rfl)) (fun _ h9 => h9) rfl (by decide +kernel) rfl rfl (Nat.le_of_ble_eq_true rfl) dX4_init_6 (fun H locs hP hD hS => ?_)
  have hP : va_P D vwCl [(h0, .inr (3, [.int 0, .int 0, .int 0, .int 0, .int 0, .int 0, .int 0, .int 0, .int 0, .null, .null, .null, .null, .null]))] H := hP
  have hD : va_D A [(h0, .inr (3, [.int 0, .int 0, .int 0, .int 0, .int 0, .int 0, .int 0, .int 0, .int 0, .null, .null, .null, .null, .null]))] := hD
  refine lv_aload_n hx hb dX4_init_9 rfl (lv_at hl 0 rfl) ?_
  refine lv_iconst (v := 0) hx hb dX4_init_10 (by decide) ?_
  refine va_put (D := D) (ci := 3) (v := .int 0) (ty := .int) (C := RX4) (T := TX4) (N := 14) hx hb hts in0 tyX4 tyX4_ok nmX4 hown hK hP hD hS 0 rfl rfl 1 (by decide) (hts _ (List.mem_of_getElem? (i := 5) rfl)) (fun _ h9 => h9) rfl (by decide +kernel) rfl rfl (Nat.le_of_ble_eq_true rfl) dX4_init_11 (fun H locs hP hD hS => ?_)
  have hP : va_P D vwCl [(h0, .inr (3, [.int 0, .int 0, .int 0, .int 0, .int 0, .int 0, .int 0, .int 0, .int 0, .null, .null, .null, .null, .null]))] H := hP
  have hD : va_D A [(h0, .inr (3, [.int 0, .int 0, .int 0, .int 0, .int 0, .int 0, .int 0, .int 0, .int 0, .null, .null, .null, .null, .null]))] := hD
  refine lv_aload_n hx hb dX4_init_14 rfl (lv_at hl 0 rfl) ?_
  refine lv_iconst (v := 1) hx hb dX4_init_15 (by decide) ?_
  refine va_put (D := D) (ci := 3) (v := .int 1) (ty := .int) (C := RX4) (T := TX4) (N := 14) hx hb hts in0 tyX4 tyX4_ok nmX4 hown hK hP hD hS 0 rfl rfl 2 (by decide) (hts _ (List.mem_of_getElem? (i := 6) rfl)) (fun _ h9 => h9) rfl (by decide +kernel) rfl rfl (Nat.le_of_ble_eq_true rfl) dX4_init_16 (fun H locs hP hD hS => ?_)
  have hP : va_P D vwCl [(h0, .inr (3, [.int 0, .int 0, .int 1, .int 0, .int 0, .int 0, .int 0, .int 0, .int 0, .null, .null, .null, .null, .null]))] H := hP
  have hD : va_D A [(h0, .inr (3, [.int 0, .int 0, .int 1, .int 0, .int 0, .int 0, .int 0, .int 0, .int 0, .null, .null, .null, .null, .null]))] := hD
  refine lv_aload_n hx hb dX4_init_19 rfl (lv_at hl 0 rfl) ?_
  refine lv_iconst (v := 0) hx hb dX4_init_20 (by decide) ?_
  refine va_put (D := D) (ci := 3) (v := .int 0) (ty := .int) (C := RX4) (T := TX4) (N := 14) hx hb hts in0 tyX4 tyX4_ok nmX4 hown hK hP hD hS 0 rfl rfl 3 (by decide) (hts _ (List.mem_of_getElem? (i := 7) rfl)) (fun _ h9 => h9) rfl (by decide +kernel) rfl rfl (Nat.le_of_ble_eq_true rfl) dX4_init_21 (fun H locs hP hD hS => ?_)
  have hP : va_P D vwCl [(h0, .inr (3, [.int 0, .int 0, .int 1, .int 0, .int 0, .int 0, .int 0, .int 0, .int 0, .null, .null, .null, .null, .null]))] H := hP
  have hD : va_D A [(h0, .inr (3, [.int 0, .int 0, .int 1, .int 0, .int 0, .int 0, .int 0, .int 0, .int 0, .null, .null, .null, .null, .null]))] := hD
  refine lv_aload_n hx hb dX4_init_24 rfl (lv_at hl 0 rfl) ?_
  refine lv_iconst (v := 5) hx hb dX4_init_25 (by decide) ?_
  refine va_put (D := D) (ci := 3) (v := .int 5) (ty := .int) (C := RX4) (T := TX4) (N := 14) hx hb hts in0 tyX4 tyX4_ok nmX4 hown hK hP hD hS 0 rfl rfl 4 (by decide) (hts _ (List.mem_of_getElem? (i := 8) rfl)) (fun _ h9 => h9) rfl (by decide +kernel) rfl rfl (Nat.le_of_ble_eq_true rfl) dX4_init_26 (fun H locs hP hD hS => ?_)
  have hP : va_P D vwCl [(h0, .inr (3, [.int 0, .int 0, .int 1, .int 0, .int 5, .int 0, .int 0, .int 0, .int 0, .null, .null, .null, .null, .null]))] H := hP
  have hD : va_D A [(h0, .inr (3, [.int 0, .int 0, .int 1, .int 0, .int 5, .int 0, .int 0, .int 0, .int 0, .null, .null, .null, .null, .null]))] := hD
  refine lv_aload_n hx hb dX4_init_29 rfl (lv_at hl 0 rfl) ?_
  refine lv_iconst (v := 0) hx hb dX4_init_30 (by decide) ?_
  refine va_put (D := D) (ci := 3) (v := .int 0) (ty := .int) (C := RX4) (T := TX4) (N := 14) hx hb hts in0 tyX4 tyX4_ok nmX4 hown hK hP hD hS 0 rfl rfl 5 (by decide) (hts _ (List.mem_of_getElem? (i := 9) rfl)) (fun _ h9 => h9) rfl (by decide +kernel) rfl rfl (Nat.le_of_ble_eq_true rfl) dX4_init_31 (fun H locs hP hD hS => ?_)
  have hP : va_P D vwCl [(h0, .inr (3, [.int 0, .int 0, .int 1, .int 0, .int 5, .int 0, .int 0, .int 0, .int 0, .null, .null, .null, .null, .null]))] H := hP
  have hD : va_D A [(h0, .inr (3, [.int 0, .int 0, .int 1, .int 0, .int 5, .int 0, .int 0, .int 0, .int 0, .null, .null, .null, .null, .null]))] := hD
  refine lv_aload_n hx hb dX4_init_34 rfl (lv_at hl 0 rfl) ?_
  refine lv_iconst (v := 0) hx hb dX4_init_35 (by decide) ?_
  refine va_put (D := D) (ci := 3) (v := .int 0) (ty := .int) (C := RX4) (T := TX4) (N := 14) hx hb hts in0 tyX4 tyX4_ok nmX4 hown hK hP hD hS 0 rfl rfl 6 (by decide) (hts _ (List.mem_of_getElem? (i := 10) rfl)) (fun _ h9 => h9) rfl (by decide +kernel) rfl rfl (Nat.le_of_ble_eq_true rfl) dX4_init_36 (fun H locs hP hD hS => ?_)
  have hP : va_P D vwCl [(h0, .inr (3, [.int 0, .int 0, .int 1, .int 0, .int 5, .int 0, .int 0, .int 0, .int 0, .null, .null, .null, .null, .null]))] H := hP
  have hD : va_D A [(h0, .inr (3, [.int 0, .int 0, .int 1, .int 0, .int 5, .int 0, .int 0, .int 0, .int 0, .null, .null, .null, .null, .null]))] := hD
  refine lv_aload_n hx hb dX4_init_39 rfl (lv_at hl 0 rfl) ?_
  refine lv_iconst (v := 0) hx hb dX4_init_40 (by decide) ?_
  refine va_put (D := D) (ci := 3) (v := .int 0) (ty := .int) (C := RX4) (T := TX4) (N := 14) hx hb hts in0 tyX4 tyX4_ok nmX4 hown hK hP hD hS 0 rfl rfl 7 (by decide) (hts _ (List.mem_of_getElem? (i := 11) rfl)) (fun _ h9 => h9) rfl (by decide +kernel) rfl rfl (Nat.le_of_ble_eq_true rfl) dX4_init_41 (fun H locs hP hD hS => ?_)
  have hP : va_P D vwCl [(h0, .inr (3, [.int 0, .int 0, .int 1, .int 0, .int 5, .int 0, .int 0, .int 0, .int 0, .null, .null, .null, .null, .null]))] H := hP
  have hD : va_D A [(h0, .inr (3, [.int 0, .int 0, .int 1, .int 0, .int 5, .int 0, .int 0, .int 0, .int 0, .null, .null, .null, .null, .null]))] := hD
  refine lv_aload_n hx hb dX4_init_44 rfl (lv_at hl 0 rfl) ?_
  refine lv_iconst (v := 0) hx hb dX4_init_45 (by decide) ?_
  refine va_put (D := D) (ci := 3) (v := .int 0) (ty := .int) (C := RX4) (T := TX4) (N := 14) hx hb hts in0 tyX4 tyX4_ok nmX4 hown hK hP hD hS 0 rfl rfl 8 (by decide) (hts _ (List.mem_of_getElem? (i := 12) rfl)) (fun _ h9 => h9) rfl (by decide +kernel) rfl rfl (Nat.le_of_ble_eq_true rfl) dX4_init_46 (fun H locs hP hD hS => ?_)
  have hP : va_P D vwCl [(h0, .inr (3, [.int 0, .int 0, .int 1, .int 0, .int 5, .int 0, .int 0, .int 0, .int 0, .null, .null, .null, .null, .null]))] H := hP
  have hD : va_D A [(h0, .inr (3, [.int 0, .int 0, .int 1, .int 0, .int 5, .int 0, .int 0, .int 0, .int 0, .null, .null, .null, .null, .null]))] := hD
  refine lv_aload_n hx hb dX4_init_49 rfl (lv_at hl 0 rfl) ?_
  refine va_new (ci := 1) (fs := [.null]) (C := RX2) (T := TX2) (N := 1) hx hb hts in2 tyX2 tyX2_ok hown (hts _ (List.mem_of_getElem? (i := 13) rfl)) (hts _ (List.mem_of_getElem? (i := 14) rfl)) (hts _ (List.mem_of_getElem? (i := 15) rfl)) hK hP hD hS hA rfl (fun j hj => by rcases (show j = 0 by omega) with rfl <;> rfl) (show 0 + 1 ≤ 10 by decide) (show 0 + 1 ≤ 45 by decide) dX4_init_50 (fun q50 H hP hD hS => ?_)
  have hP : va_P D vwCl [(h0, .inr (3, [.int 0, .int 0, .int 1, .int 0, .int 5, .int 0, .int 0, .int 0, .int 0, .null, .null, .null, .null, .null])), (q50, .inr (1, [.null]))] H := hP
  have hD : va_D A [(h0, .inr (3, [.int 0, .int 0, .int 1, .int 0, .int 5, .int 0, .int 0, .int 0, .int 0, .null, .null, .null, .null, .null])), (q50, .inr (1, [.null]))] := hD
  refine W.widen (k := 1) (n := 1) (by omega) (by omega) ?_
  refine lv_dup hx hb dX4_init_53 rfl ?_
  refine lv_bipush (v := nI 8) hx hb dX4_init_54 (by decide) ?_
  have hPc := hP.sub (ws' := [(q50, .inr (1, [.null]))]) [1] rfl
  have hDc := hD.sub (ws' := [(q50, .inr (1, [.null]))]) [1] (by decide) rfl
  have hKc := hK.sub (tys' := []) [] rfl
  have hFc := va_free (wc := [(q50, .inr (1, [.null]))]) hD hS hA [1] rfl
  refine va_callv (va_runI (As := [.int (nI 8)]) (rest := [.ref q50, .ref h0]) ⟨hx, hb, hml, hown, hts⟩ (c_X2_init l D q50 H.size 8 (by decide)) (cwI 1 hts gX4_init_X2_init rfl rfl rfl (hts _ (List.mem_of_getElem? (i := 15) rfl)) (hts _ (List.mem_of_getElem? (i := 21) rfl)) (hts _ (List.mem_of_getElem? (i := 22) rfl)) rfl (by decide +kernel) ⟨Nat.le_of_ble_eq_true rfl, Nat.le_of_ble_eq_true rfl⟩) ⟨fun a U g mk q => by obtain ⟨q0, q1, qP, qK, qD⟩ := q; exact ⟨q0, q1, qP, va_K.moved (u := U) (U := U.calling g mk a) (Vm.Alike.refl U.vm) qK, qD⟩, fun U hU hW => ⟨rfl, by rw [hU], by rw [hU]; exact hPc, va_K.moved hW.alike hKc, hDc.weaken (fun _ _ _ _ => trivial)⟩⟩ rfl rfl hl.1 rfl (lv_room (Nat.le_of_ble_eq_true rfl)) dX4_init_56 ⟨(show 1 + 1 ≤ 10 by decide), (show 1 + 8 ≤ 45 by decide)⟩) hS (fun q _ h => hFc q h) hFc (fun u t H1 locs ht hvm h5 hB hz1 hk1 hS => ?_)
  obtain ⟨a56, k56⟩ := u
  obtain ⟨hP1, hK1, hD1⟩ := hB
  rw [ht] at hP1
  have hK1 := va_K.moved hvm.symm hK1
  obtain ⟨hP, hD⟩ := va_join (wr := [(h0, .inr (3, [.int 0, .int 0, .int 1, .int 0, .int 5, .int 0, .int 0, .int 0, .int 0, .null, .null, .null, .null, .null]))]) (w1 := [(q50, .inr (1, [.ref a56])), (a56, .inl (k56, 8, .inl (fun _ => 0)))]) hP hD [1] [0] rfl rfl (by decide) (by decide) hk1 hFc hP1 hD1
  have hK := (hK.sub (tys' := []) [] rfl).app hK1
  generalize H1 = H at hP hS ⊢
  have hP : va_P D vwCl [(h0, .inr (3, [.int 0, .int 0, .int 1, .int 0, .int 5, .int 0, .int 0, .int 0, .int 0, .null, .null, .null, .null, .null])), (q50, .inr (1, [.ref a56])), (a56, .inl (k56, 8, .inl (fun _ => 0)))] H := hP
  have hD : va_D A [(h0, .inr (3, [.int 0, .int 0, .int 1, .int 0, .int 5, .int 0, .int 0, .int 0, .int 0, .null, .null, .null, .null, .null])), (q50, .inr (1, [.ref a56])), (a56, .inl (k56, 8, .inl (fun _ => 0)))] := hD
  have hK : va_K D vwCl [(k56, .int)] s := hK
  refine va_putF (D := D) (ci := 3) (v := .ref q50) (ty := .object RX2) (C := RX4) (T := TX4) (N := 14) hx hb hts in0 tyX4 tyX4_ok nmX4 hown hK hP hD hS 0 rfl rfl 9 (by decide) (hts _ (List.mem_of_getElem? (i := 16) rfl)) (fun _ h9 => h9) rfl hin rfl (by decide +kernel) rfl rfl (Nat.le_of_ble_eq_true rfl) dX4_init_59 (fun H locs hP hD hS => ?_)
  have hP : va_P D vwCl [(h0, .inr (3, [.int 0, .int 0, .int 1, .int 0, .int 5, .int 0, .int 0, .int 0, .int 0, .ref q50, .null, .null, .null, .null])), (q50, .inr (1, [.ref a56])), (a56, .inl (k56, 8, .inl (fun _ => 0)))] H := hP
  have hD : va_D A [(h0, .inr (3, [.int 0, .int 0, .int 1, .int 0, .int 5, .int 0, .int 0, .int 0, .int 0, .ref q50, .null, .null, .null, .null])), (q50, .inr (1, [.ref a56])), (a56, .inl (k56, 8, .inl (fun _ => 0)))] := hD
  refine lv_aload_n hx hb dX4_init_62 rfl (lv_at hl 0 rfl) ?_
  refine va_new (ci := 1) (fs := [.null]) (C := RX2) (T := TX2) (N := 1) hx hb hts in2 tyX2 tyX2_ok hown (hts _ (List.mem_of_getElem? (i := 13) rfl)) (hts _ (List.mem_of_getElem? (i := 14) rfl)) (hts _ (List.mem_of_getElem? (i := 15) rfl)) hK hP hD hS hA rfl (fun j hj => by rcases (show j = 0 by omega) with rfl <;> rfl) (show 2 + 1 ≤ 10 by decide) (show 9 + 1 ≤ 45 by decide) dX4_init_63 (fun q63 H hP hD hS => ?_)
  have hP : va_P D vwCl [(h0, .inr (3, [.int 0, .int 0, .int 1, .int 0, .int 5, .int 0, .int 0, .int 0, .int 0, .ref q50, .null, .null, .null, .null])), (q50, .inr (1, [.ref a56])), (a56, .inl (k56, 8, .inl (fun _ => 0))), (q63, .inr (1, [.null]))] H := hP
  have hD : va_D A [(h0, .inr (3, [.int 0, .int 0, .int 1, .int 0, .int 5, .int 0, .int 0, .int 0, .int 0, .ref q50, .null, .null, .null, .null])), (q50, .inr (1, [.ref a56])), (a56, .inl (k56, 8, .inl (fun _ => 0))), (q63, .inr (1, [.null]))] := hD
  refine W.widen (k := 3) (n := 10) (by omega) (by omega) ?_
  refine lv_dup hx hb dX4_init_66 rfl ?_
  refine lv_bipush (v := nI 8) hx hb dX4_init_67 (by decide) ?_
  have hPc := hP.sub (ws' := [(q63, .inr (1, [.null]))]) [3] rfl
  have hDc := hD.sub (ws' := [(q63, .inr (1, [.null]))]) [3] (by decide) rfl
  have hKc := hK.sub (tys' := []) [] rfl
  have hFc := va_free (wc := [(q63, .inr (1, [.null]))]) hD hS hA [3] rfl
  refine va_callv (va_runI (As := [.int (nI 8)]) (rest := [.ref q63, .ref h0]) ⟨hx, hb, hml, hown, hts⟩ (c_X2_init l D q63 H.size 8 (by decide)) (cwI 1 hts gX4_init_X2_init rfl rfl rfl (hts _ (List.mem_of_getElem? (i := 15) rfl)) (hts _ (List.mem_of_getElem? (i := 21) rfl)) (hts _ (List.mem_of_getElem? (i := 22) rfl)) rfl (by decide +kernel) ⟨Nat.le_of_ble_eq_true rfl, Nat.le_of_ble_eq_true rfl⟩) ⟨fun a U g mk q => by obtain ⟨q0, q1, qP, qK, qD⟩ := q; exact ⟨q0, q1, qP, va_K.moved (u := U) (U := U.calling g mk a) (Vm.Alike.refl U.vm) qK, qD⟩, fun U hU hW => ⟨rfl, by rw [hU], by rw [hU]; exact hPc, va_K.moved hW.alike hKc, hDc.weaken (fun _ _ _ _ => trivial)⟩⟩ rfl rfl hl.1 rfl (lv_room (Nat.le_of_ble_eq_true rfl)) dX4_init_69 ⟨(show 3 + 1 ≤ 10 by decide), (show 10 + 8 ≤ 45 by decide)⟩) hS (fun q _ h => hFc q h) hFc (fun u t H1 locs ht hvm h5 hB hz1 hk1 hS => ?_)
  obtain ⟨a69, k69⟩ := u
  obtain ⟨hP1, hK1, hD1⟩ := hB
  rw [ht] at hP1
  have hK1 := va_K.moved hvm.symm hK1
  obtain ⟨hP, hD⟩ := va_join (wr := [(h0, .inr (3, [.int 0, .int 0, .int 1, .int 0, .int 5, .int 0, .int 0, .int 0, .int 0, .ref q50, .null, .null, .null, .null])), (q50, .inr (1, [.ref a56])), (a56, .inl (k56, 8, .inl (fun _ => 0)))]) (w1 := [(q63, .inr (1, [.ref a69])), (a69, .inl (k69, 8, .inl (fun _ => 0)))]) hP hD [3] [0, 1, 2] rfl rfl (by decide) (by decide) hk1 hFc hP1 hD1
  have hcc : k56 = k69 := k_one hK hK1
  subst hcc
  generalize H1 = H at hP hS ⊢
  have hP : va_P D vwCl [(h0, .inr (3, [.int 0, .int 0, .int 1, .int 0, .int 5, .int 0, .int 0, .int 0, .int 0, .ref q50, .null, .null, .null, .null])), (q50, .inr (1, [.ref a56])), (a56, .inl (k56, 8, .inl (fun _ => 0))), (q63, .inr (1, [.ref a69])), (a69, .inl (k56, 8, .inl (fun _ => 0)))] H := hP
  have hD : va_D A [(h0, .inr (3, [.int 0, .int 0, .int 1, .int 0, .int 5, .int 0, .int 0, .int 0, .int 0, .ref q50, .null, .null, .null, .null])), (q50, .inr (1, [.ref a56])), (a56, .inl (k56, 8, .inl (fun _ => 0))), (q63, .inr (1, [.ref a69])), (a69, .inl (k56, 8, .inl (fun _ => 0)))] := hD
  have hK : va_K D vwCl [(k56, .int)] s := hK
  refine va_putF (D := D) (ci := 3) (v := .ref q63) (ty := .object RX2) (C := RX4) (T := TX4) (N := 14) hx hb hts in0 tyX4 tyX4_ok nmX4 hown hK hP hD hS 0 rfl rfl 10 (by decide) (hts _ (List.mem_of_getElem? (i := 17) rfl)) (fun _ h9 => h9) rfl hin rfl (by decide +kernel) rfl rfl (Nat.le_of_ble_eq_true rfl) dX4_init_72 (fun H locs hP hD hS => ?_)
  have hP : va_P D vwCl [(h0, .inr (3, [.int 0, .int 0, .int 1, .int 0, .int 5, .int 0, .int 0, .int 0, .int 0, .ref q50, .ref q63, .null, .null, .null])), (q50, .inr (1, [.ref a56])), (a56, .inl (k56, 8, .inl (fun _ => 0))), (q63, .inr (1, [.ref a69])), (a69, .inl (k56, 8, .inl (fun _ => 0)))] H := hP
  have hD : va_D A [(h0, .inr (3, [.int 0, .int 0, .int 1, .int 0, .int 5, .int 0, .int 0, .int 0, .int 0, .ref q50, .ref q63, .null, .null, .null])), (q50, .inr (1, [.ref a56])), (a56, .inl (k56, 8, .inl (fun _ => 0))), (q63, .inr (1, [.ref a69])), (a69, .inl (k56, 8, .inl (fun _ => 0)))] := hD
  refine lv_aload_n hx hb dX4_init_75 rfl (lv_at hl 0 rfl) ?_
  refine va_new (ci := 1) (fs := [.null]) (C := RX2) (T := TX2) (N := 1) hx hb hts in2 tyX2 tyX2_ok hown (hts _ (List.mem_of_getElem? (i := 13) rfl)) (hts _ (List.mem_of_getElem? (i := 14) rfl)) (hts _ (List.mem_of_getElem? (i := 15) rfl)) hK hP hD hS hA rfl (fun j hj => by rcases (show j = 0 by omega) with rfl <;> rfl) (show 4 + 1 ≤ 10 by decide) (show 18 + 1 ≤ 45 by decide) dX4_init_76 (fun q76 H hP hD hS => ?_)
  have hP : va_P D vwCl [(h0, .inr (3, [.int 0, .int 0, .int 1, .int 0, .int 5, .int 0, .int 0, .int 0, .int 0, .ref q50, .ref q63, .null, .null, .null])), (q50, .inr (1, [.ref a56])), (a56, .inl (k56, 8, .inl (fun _ => 0))), (q63, .inr (1, [.ref a69])), (a69, .inl (k56, 8, .inl (fun _ => 0))), (q76, .inr (1, [.null]))] H := hP
  have hD : va_D A [(h0, .inr (3, [.int 0, .int 0, .int 1, .int 0, .int 5, .int 0, .int 0, .int 0, .int 0, .ref q50, .ref q63, .null, .null, .null])), (q50, .inr (1, [.ref a56])), (a56, .inl (k56, 8, .inl (fun _ => 0))), (q63, .inr (1, [.ref a69])), (a69, .inl (k56, 8, .inl (fun _ => 0))), (q76, .inr (1, [.null]))] := hD
  refine W.widen (k := 5) (n := 19) (by omega) (by omega) ?_
  refine lv_dup hx hb dX4_init_79 rfl ?_
  refine lv_bipush (v := nI 8) hx hb dX4_init_80 (by decide) ?_
  have hPc := hP.sub (ws' := [(q76, .inr (1, [.null]))]) [5] rfl
  have hDc := hD.sub (ws' := [(q76, .inr (1, [.null]))]) [5] (by decide) rfl
  have hKc := hK.sub (tys' := []) [] rfl
  have hFc := va_free (wc := [(q76, .inr (1, [.null]))]) hD hS hA [5] rfl
  refine va_callv (va_runI (As := [.int (nI 8)]) (rest := [.ref q76, .ref h0]) ⟨hx, hb, hml, hown, hts⟩ (c_X2_init l D q76 H.size 8 (by decide)) (cwI 1 hts gX4_init_X2_init rfl rfl rfl (hts _ (List.mem_of_getElem? (i := 15) rfl)) (hts _ (List.mem_of_getElem? (i := 21) rfl)) (hts _ (List.mem_of_getElem? (i := 22) rfl)) rfl (by decide +kernel) ⟨Nat.le_of_ble_eq_true rfl, Nat.le_of_ble_eq_true rfl⟩) ⟨fun a U g mk q => by obtain ⟨q0, q1, qP, qK, qD⟩ := q; exact ⟨q0, q1, qP, va_K.moved (u := U) (U := U.calling g mk a) (Vm.Alike.refl U.vm) qK, qD⟩, fun U hU hW => ⟨rfl, by rw [hU], by rw [hU]; exact hPc, va_K.moved hW.alike hKc, hDc.weaken (fun _ _ _ _ => trivial)⟩⟩ rfl rfl hl.1 rfl (lv_room (Nat.le_of_ble_eq_true rfl)) dX4_init_82 ⟨(show 5 + 1 ≤ 10 by decide), (show 19 + 8 ≤ 45 by decide)⟩) hS (fun q _ h => hFc q h) hFc (fun u t H1 locs ht hvm h5 hB hz1 hk1 hS => ?_)
  obtain ⟨a82, k82⟩ := u
  obtain ⟨hP1, hK1, hD1⟩ := hB
  rw [ht] at hP1
  have hK1 := va_K.moved hvm.symm hK1
  obtain ⟨hP, hD⟩ := va_join (wr := [(h0, .inr (3, [.int 0, .int 0, .int 1, .int 0, .int 5, .int 0, .int 0, .int 0, .int 0, .ref q50, .ref q63, .null, .null, .null])), (q50, .inr (1, [.ref a56])), (a56, .inl (k56, 8, .inl (fun _ => 0))), (q63, .inr (1, [.ref a69])), (a69, .inl (k56, 8, .inl (fun _ => 0)))]) (w1 := [(q76, .inr (1, [.ref a82])), (a82, .inl (k82, 8, .inl (fun _ => 0)))]) hP hD [5] [0, 1, 2, 3, 4] rfl rfl (by decide) (by decide) hk1 hFc hP1 hD1
  have hcc : k56 = k82 := k_one hK hK1
  subst hcc
  generalize H1 = H at hP hS ⊢
  have hP : va_P D vwCl [(h0, .inr (3, [.int 0, .int 0, .int 1, .int 0, .int 5, .int 0, .int 0, .int 0, .int 0, .ref q50, .ref q63, .null, .null, .null])), (q50, .inr (1, [.ref a56])), (a56, .inl (k56, 8, .inl (fun _ => 0))), (q63, .inr (1, [.ref a69])), (a69, .inl (k56, 8, .inl (fun _ => 0))), (q76, .inr (1, [.ref a82])), (a82, .inl (k56, 8, .inl (fun _ => 0)))] H := hP
  have hD : va_D A [(h0, .inr (3, [.int 0, .int 0, .int 1, .int 0, .int 5, .int 0, .int 0, .int 0, .int 0, .ref q50, .ref q63, .null, .null, .null])), (q50, .inr (1, [.ref a56])), (a56, .inl (k56, 8, .inl (fun _ => 0))), (q63, .inr (1, [.ref a69])), (a69, .inl (k56, 8, .inl (fun _ => 0))), (q76, .inr (1, [.ref a82])), (a82, .inl (k56, 8, .inl (fun _ => 0)))] := hD
  have hK : va_K D vwCl [(k56, .int)] s := hK
  refine va_putF (D := D) (ci := 3) (v := .ref q76) (ty := .object RX2) (C := RX4) (T := TX4) (N := 14) hx hb hts in0 tyX4 tyX4_ok nmX4 hown hK hP hD hS 0 rfl rfl 11 (by decide) (hts _ (List.mem_of_getElem? (i := 18) rfl)) (fun _ h9 => h9) rfl hin rfl (by decide +kernel) rfl rfl (Nat.le_of_ble_eq_true rfl) dX4_init_85 (fun H locs hP hD hS => ?_)
  have hP : va_P D vwCl [(h0, .inr (3, [.int 0, .int 0, .int 1, .int 0, .int 5, .int 0, .int 0, .int 0, .int 0, .ref q50, .ref q63, .ref q76, .null, .null])), (q50, .inr (1, [.ref a56])), (a56, .inl (k56, 8, .inl (fun _ => 0))), (q63, .inr (1, [.ref a69])), (a69, .inl (k56, 8, .inl (fun _ => 0))), (q76, .inr (1, [.ref a82])), (a82, .inl (k56, 8, .inl (fun _ => 0)))] H := hP
  have hD : va_D A [(h0, .inr (3, [.int 0, .int 0, .int 1, .int 0, .int 5, .int 0, .int 0, .int 0, .int 0, .ref q50, .ref q63, .ref q76, .null, .null])), (q50, .inr (1, [.ref a56])), (a56, .inl (k56, 8, .inl (fun _ => 0))), (q63, .inr (1, [.ref a69])), (a69, .inl (k56, 8, .inl (fun _ => 0))), (q76, .inr (1, [.ref a82])), (a82, .inl (k56, 8, .inl (fun _ => 0)))] := hD
  refine lv_aload_n hx hb dX4_init_88 rfl (lv_at hl 0 rfl) ?_
  refine va_new (ci := 1) (fs := [.null]) (C := RX2) (T := TX2) (N := 1) hx hb hts in2 tyX2 tyX2_ok hown (hts _ (List.mem_of_getElem? (i := 13) rfl)) (hts _ (List.mem_of_getElem? (i := 14) rfl)) (hts _ (List.mem_of_getElem? (i := 15) rfl)) hK hP hD hS hA rfl (fun j hj => by rcases (show j = 0 by omega) with rfl <;> rfl) (show 6 + 1 ≤ 10 by decide) (show 27 + 1 ≤ 45 by decide) dX4_init_89 (fun q89 H hP hD hS => ?_)
  have hP : va_P D vwCl [(h0, .inr (3, [.int 0, .int 0, .int 1, .int 0, .int 5, .int 0, .int 0, .int 0, .int 0, .ref q50, .ref q63, .ref q76, .null, .null])), (q50, .inr (1, [.ref a56])), (a56, .inl (k56, 8, .inl (fun _ => 0))), (q63, .inr (1, [.ref a69])), (a69, .inl (k56, 8, .inl (fun _ => 0))), (q76, .inr (1, [.ref a82])), (a82, .inl (k56, 8, .inl (fun _ => 0))), (q89, .inr (1, [.null]))] H := hP
  have hD : va_D A [(h0, .inr (3, [.int 0, .int 0, .int 1, .int 0, .int 5, .int 0, .int 0, .int 0, .int 0, .ref q50, .ref q63, .ref q76, .null, .null])), (q50, .inr (1, [.ref a56])), (a56, .inl (k56, 8, .inl (fun _ => 0))), (q63, .inr (1, [.ref a69])), (a69, .inl (k56, 8, .inl (fun _ => 0))), (q76, .inr (1, [.ref a82])), (a82, .inl (k56, 8, .inl (fun _ => 0))), (q89, .inr (1, [.null]))] := hD
  refine W.widen (k := 7) (n := 28) (by omega) (by omega) ?_
  refine lv_dup hx hb dX4_init_92 rfl ?_
  refine lv_bipush (v := nI 8) hx hb dX4_init_93 (by decide) ?_
  have hPc := hP.sub (ws' := [(q89, .inr (1, [.null]))]) [7] rfl
  have hDc := hD.sub (ws' := [(q89, .inr (1, [.null]))]) [7] (by decide) rfl
  have hKc := hK.sub (tys' := []) [] rfl
  have hFc := va_free (wc := [(q89, .inr (1, [.null]))]) hD hS hA [7] rfl
  refine va_callv (va_runI (As := [.int (nI 8)]) (rest := [.ref q89, .ref h0]) ⟨hx, hb, hml, hown, hts⟩ (c_X2_init l D q89 H.size 8 (by decide)) (cwI 1 hts gX4_init_X2_init rfl rfl rfl (hts _ (List.mem_of_getElem? (i := 15) rfl)) (hts _ (List.mem_of_getElem? (i := 21) rfl)) (hts _ (List.mem_of_getElem? (i := 22) rfl)) rfl (by decide +kernel) ⟨Nat.le_of_ble_eq_true rfl, Nat.le_of_ble_eq_true rfl⟩) ⟨fun a U g mk q => by obtain ⟨q0, q1, qP, qK, qD⟩ := q; exact ⟨q0, q1, qP, va_K.moved (u := U) (U := U.calling g mk a) (Vm.Alike.refl U.vm) qK, qD⟩, fun U hU hW => ⟨rfl, by rw [hU], by rw [hU]; exact hPc, va_K.moved hW.alike hKc, hDc.weaken (fun _ _ _ _ => trivial)⟩⟩ rfl rfl hl.1 rfl (lv_room (Nat.le_of_ble_eq_true rfl)) dX4_init_95 ⟨(show 7 + 1 ≤ 10 by decide), (show 28 + 8 ≤ 45 by decide)⟩) hS (fun q _ h => hFc q h) hFc (fun u t H1 locs ht hvm h5 hB hz1 hk1 hS => ?_)
  obtain ⟨a95, k95⟩ := u
  obtain ⟨hP1, hK1, hD1⟩ := hB
  rw [ht] at hP1
  have hK1 := va_K.moved hvm.symm hK1
  obtain ⟨hP, hD⟩ := va_join (wr := [(h0, .inr (3, [.int 0, .int 0, .int 1, .int 0, .int 5, .int 0, .int 0, .int 0, .int 0, .ref q50, .ref q63, .ref q76, .null, .null])), (q50, .inr (1, [.ref a56])), (a56, .inl (k56, 8, .inl (fun _ => 0))), (q63, .inr (1, [.ref a69])), (a69, .inl (k56, 8, .inl (fun _ => 0))), (q76, .inr (1, [.ref a82])), (a82, .inl (k56, 8, .inl (fun _ => 0)))]) (w1 := [(q89, .inr (1, [.ref a95])), (a95, .inl (k95, 8, .inl (fun _ => 0)))]) hP hD [7] [0, 1, 2, 3, 4, 5, 6] rfl rfl (by decide) (by decide) hk1 hFc hP1 hD1
  have hcc : k56 = k95 := k_one hK hK1
  subst hcc
  generalize H1 = H at hP hS ⊢
  have hP : va_P D vwCl [(h0, .inr (3, [.int 0, .int 0, .int 1, .int 0, .int 5, .int 0, .int 0, .int 0, .int 0, .ref q50, .ref q63, .ref q76, .null, .null])), (q50, .inr (1, [.ref a56])), (a56, .inl (k56, 8, .inl (fun _ => 0))), (q63, .inr (1, [.ref a69])), (a69, .inl (k56, 8, .inl (fun _ => 0))), (q76, .inr (1, [.ref a82])), (a82, .inl (k56, 8, .inl (fun _ => 0))), (q89, .inr (1, [.ref a95])), (a95, .inl (k56, 8, .inl (fun _ => 0)))] H := hP
  have hD : va_D A [(h0, .inr (3, [.int 0, .int 0, .int 1, .int 0, .int 5, .int 0, .int 0, .int 0, .int 0, .ref q50, .ref q63, .ref q76, .null, .null])), (q50, .inr (1, [.ref a56])), (a56, .inl (k56, 8, .inl (fun _ => 0))), (q63, .inr (1, [.ref a69])), (a69, .inl (k56, 8, .inl (fun _ => 0))), (q76, .inr (1, [.ref a82])), (a82, .inl (k56, 8, .inl (fun _ => 0))), (q89, .inr (1, [.ref a95])), (a95, .inl (k56, 8, .inl (fun _ => 0)))] := hD
  have hK : va_K D vwCl [(k56, .int)] s := hK
  refine va_putF (D := D) (ci := 3) (v := .ref q89) (ty := .object RX2) (C := RX4) (T := TX4) (N := 14) hx hb hts in0 tyX4 tyX4_ok nmX4 hown hK hP hD hS 0 rfl rfl 12 (by decide) (hts _ (List.mem_of_getElem? (i := 19) rfl)) (fun _ h9 => h9) rfl hin rfl (by decide +kernel) rfl rfl (Nat.le_of_ble_eq_true rfl) dX4_init_98 (fun H locs hP hD hS => ?_)
  have hP : va_P D vwCl [(h0, .inr (3, [.int 0, .int 0, .int 1, .int 0, .int 5, .int 0, .int 0, .int 0, .int 0, .ref q50, .ref q63, .ref q76, .ref q89, .null])), (q50, .inr (1, [.ref a56])), (a56, .inl (k56, 8, .inl (fun _ => 0))), (q63, .inr (1, [.ref a69])), (a69, .inl (k56, 8, .inl (fun _ => 0))), (q76, .inr (1, [.ref a82])), (a82, .inl (k56, 8, .inl (fun _ => 0))), (q89, .inr (1, [.ref a95])), (a95, .inl (k56, 8, .inl (fun _ => 0)))] H := hP
  have hD : va_D A [(h0, .inr (3, [.int 0, .int 0, .int 1, .int 0, .int 5, .int 0, .int 0, .int 0, .int 0, .ref q50, .ref q63, .ref q76, .ref q89, .null])), (q50, .inr (1, [.ref a56])), (a56, .inl (k56, 8, .inl (fun _ => 0))), (q63, .inr (1, [.ref a69])), (a69, .inl (k56, 8, .inl (fun _ => 0))), (q76, .inr (1, [.ref a82])), (a82, .inl (k56, 8, .inl (fun _ => 0))), (q89, .inr (1, [.ref a95])), (a95, .inl (k56, 8, .inl (fun _ => 0)))] := hD
  refine lv_aload_n hx hb dX4_init_101 rfl (lv_at hl 0 rfl) ?_
  refine va_new (ci := 1) (fs := [.null]) (C := RX2) (T := TX2) (N := 1) hx hb hts in2 tyX2 tyX2_ok hown (hts _ (List.mem_of_getElem? (i := 13) rfl)) (hts _ (List.mem_of_getElem? (i := 14) rfl)) (hts _ (List.mem_of_getElem? (i := 15) rfl)) hK hP hD hS hA rfl (fun j hj => by rcases (show j = 0 by omega) with rfl <;> rfl) (show 8 + 1 ≤ 10 by decide) (show 36 + 1 ≤ 45 by decide) dX4_init_102 (fun q102 H hP hD hS => ?_)
  have hP : va_P D vwCl [(h0, .inr (3, [.int 0, .int 0, .int 1, .int 0, .int 5, .int 0, .int 0, .int 0, .int 0, .ref q50, .ref q63, .ref q76, .ref q89, .null])), (q50, .inr (1, [.ref a56])), (a56, .inl (k56, 8, .inl (fun _ => 0))), (q63, .inr (1, [.ref a69])), (a69, .inl (k56, 8, .inl (fun _ => 0))), (q76, .inr (1, [.ref a82])), (a82, .inl (k56, 8, .inl (fun _ => 0))), (q89, .inr (1, [.ref a95])), (a95, .inl (k56, 8, .inl (fun _ => 0))), (q102, .inr (1, [.null]))] H := hP
  have hD : va_D A [(h0, .inr (3, [.int 0, .int 0, .int 1, .int 0, .int 5, .int 0, .int 0, .int 0, .int 0, .ref q50, .ref q63, .ref q76, .ref q89, .null])), (q50, .inr (1, [.ref a56])), (a56, .inl (k56, 8, .inl (fun _ => 0))), (q63, .inr (1, [.ref a69])), (a69, .inl (k56, 8, .inl (fun _ => 0))), (q76, .inr (1, [.ref a82])), (a82, .inl (k56, 8, .inl (fun _ => 0))), (q89, .inr (1, [.ref a95])), (a95, .inl (k56, 8, .inl (fun _ => 0))), (q102, .inr (1, [.null]))] := hD
  refine W.widen (k := 9) (n := 37) (by omega) (by omega) ?_
  refine lv_dup hx hb dX4_init_105 rfl ?_
  refine lv_bipush (v := nI 8) hx hb dX4_init_106 (by decide) ?_
  have hPc := hP.sub (ws' := [(q102, .inr (1, [.null]))]) [9] rfl
  have hDc := hD.sub (ws' := [(q102, .inr (1, [.null]))]) [9] (by decide) rfl
  have hKc := hK.sub (tys' := []) [] rfl
  have hFc := va_free (wc := [(q102, .inr (1, [.null]))]) hD hS hA [9] rfl
  refine va_callv (va_runI (As := [.int (nI 8)]) (rest := [.ref q102, .ref h0]) ⟨hx, hb, hml, hown, hts⟩ (c_X2_init l D q102 H.size 8 (by decide)) (cwI 1 hts gX4_init_X2_init rfl rfl rfl (hts _ (List.mem_of_getElem? (i := 15) rfl)) (hts _ (List.mem_of_getElem? (i := 21) rfl)) (hts _ (List.mem_of_getElem? (i := 22) rfl)) rfl (by decide +kernel) ⟨Nat.le_of_ble_eq_true rfl, Nat.le_of_ble_eq_true rfl⟩) ⟨fun a U g mk q => by obtain ⟨q0, q1, qP, qK, qD⟩ := q; exact ⟨q0, q1, qP, va_K.moved (u := U) (U := U.calling g mk a) (Vm.Alike.refl U.vm) qK, qD⟩, fun U hU hW => ⟨rfl, by rw [hU], by rw [hU]; exact hPc, va_K.moved hW.alike hKc, hDc.weaken (fun _ _ _ _ => trivial)⟩⟩ rfl rfl hl.1 rfl (lv_room (Nat.le_of_ble_eq_true rfl)) dX4_init_108 ⟨(show 9 + 1 ≤ 10 by decide), (show 37 + 8 ≤ 45 by decide)⟩) hS (fun q _ h => hFc q h) hFc (fun u t H1 locs ht hvm h5 hB hz1 hk1 hS => ?_)
  obtain ⟨a108, k108⟩ := u
  obtain ⟨hP1, hK1, hD1⟩ := hB
  rw [ht] at hP1
  have hK1 := va_K.moved hvm.symm hK1
  obtain ⟨hP, hD⟩ := va_join (wr := [(h0, .inr (3, [.int 0, .int 0, .int 1, .int 0, .int 5, .int 0, .int 0, .int 0, .int 0, .ref q50, .ref q63, .ref q76, .ref q89, .null])), (q50, .inr (1, [.ref a56])), (a56, .inl (k56, 8, .inl (fun _ => 0))), (q63, .inr (1, [.ref a69])), (a69, .inl (k56, 8, .inl (fun _ => 0))), (q76, .inr (1, [.ref a82])), (a82, .inl (k56, 8, .inl (fun _ => 0))), (q89, .inr (1, [.ref a95])), (a95, .inl (k56, 8, .inl (fun _ => 0)))]) (w1 := [(q102, .inr (1, [.ref a108])), (a108, .inl (k108, 8, .inl (fun _ => 0)))]) hP hD [9] [0, 1, 2, 3, 4, 5, 6, 7, 8] rfl rfl (by decide) (by decide) hk1 hFc hP1 hD1
  have hcc : k56 = k108 := k_one hK hK1
  subst hcc
  generalize H1 = H at hP hS ⊢
  have hP : va_P D vwCl [(h0, .inr (3, [.int 0, .int 0, .int 1, .int 0, .int 5, .int 0, .int 0, .int 0, .int 0, .ref q50, .ref q63, .ref q76, .ref q89, .null])), (q50, .inr (1, [.ref a56])), (a56, .inl (k56, 8, .inl (fun _ => 0))), (q63, .inr (1, [.ref a69])), (a69, .inl (k56, 8, .inl (fun _ => 0))), (q76, .inr (1, [.ref a82])), (a82, .inl (k56, 8, .inl (fun _ => 0))), (q89, .inr (1, [.ref a95])), (a95, .inl (k56, 8, .inl (fun _ => 0))), (q102, .inr (1, [.ref a108])), (a108, .inl (k56, 8, .inl (fun _ => 0)))] H := hP
  have hD : va_D A [(h0, .inr (3, [.int 0, .int 0, .int 1, .int 0, .int 5, .int 0, .int 0, .int 0, .int 0, .ref q50, .ref q63, .ref q76, .ref q89, .null])), (q50, .inr (1, [.ref a56])), (a56, .inl (k56, 8, .inl (fun _ => 0))), (q63, .inr (1, [.ref a69])), (a69, .inl (k56, 8, .inl (fun _ => 0))), (q76, .inr (1, [.ref a82])), (a82, .inl (k56, 8, .inl (fun _ => 0))), (q89, .inr (1, [.ref a95])), (a95, .inl (k56, 8, .inl (fun _ => 0))), (q102, .inr (1, [.ref a108])), (a108, .inl (k56, 8, .inl (fun _ => 0)))] := hD
  have hK : va_K D vwCl [(k56, .int)] s := hK
  refine va_putF (D := D) (ci := 3) (v := .ref q102) (ty := .object RX2) (C := RX4) (T := TX4) (N := 14) hx hb hts in0 tyX4 tyX4_ok nmX4 hown hK hP hD hS 0 rfl rfl 13 (by decide) (hts _ (List.mem_of_getElem? (i := 20) rfl)) (fun _ h9 => h9) rfl hin rfl (by decide +kernel) rfl rfl (Nat.le_of_ble_eq_true rfl) dX4_init_111 (fun H locs hP hD hS => ?_)
  have hP : va_P D vwCl [(h0, .inr (3, [.int 0, .int 0, .int 1, .int 0, .int 5, .int 0, .int 0, .int 0, .int 0, .ref q50, .ref q63, .ref q76, .ref q89, .ref q102])), (q50, .inr (1, [.ref a56])), (a56, .inl (k56, 8, .inl (fun _ => 0))), (q63, .inr (1, [.ref a69])), (a69, .inl (k56, 8, .inl (fun _ => 0))), (q76, .inr (1, [.ref a82])), (a82, .inl (k56, 8, .inl (fun _ => 0))), (q89, .inr (1, [.ref a95])), (a95, .inl (k56, 8, .inl (fun _ => 0))), (q102, .inr (1, [.ref a108])), (a108, .inl (k56, 8, .inl (fun _ => 0)))] H := hP
  have hD : va_D A [(h0, .inr (3, [.int 0, .int 0, .int 1, .int 0, .int 5, .int 0, .int 0, .int 0, .int 0, .ref q50, .ref q63, .ref q76, .ref q89, .ref q102])), (q50, .inr (1, [.ref a56])), (a56, .inl (k56, 8, .inl (fun _ => 0))), (q63, .inr (1, [.ref a69])), (a69, .inl (k56, 8, .inl (fun _ => 0))), (q76, .inr (1, [.ref a82])), (a82, .inl (k56, 8, .inl (fun _ => 0))), (q89, .inr (1, [.ref a95])), (a95, .inl (k56, 8, .inl (fun _ => 0))), (q102, .inr (1, [.ref a108])), (a108, .inl (k56, 8, .inl (fun _ => 0)))] := hD
  refine W.widen (k := 10) (n := 45) (by omega) (by omega) ?_
  exact W.vret hx hb hr (fun t ht hW => ⟨⟨(fun k => [h0, q50, a56, q63, a69, q76, a82, q89, a95, q102, a108].getD k 0, k56), rfl, trivial, by rw [ht]; exact hP, va_K.moved hW.alike hK, hD⟩, hS.F ht⟩) hS.2.2 dX4_init_114
