/-! constructors: the text -/
def flTR (h0 : Nat) (u : (Nat → Nat) × ClassId) : va_W := [(h0, .inr (2, [.int 0, .ref (u.1 1), .int 0, .int 0, .int 0])), (u.1 1, .inr (1, [.ref (u.1 2)])), (u.1 2, .inl (u.2, 150, .inl (fun _ => 0)))]
def atTR (D : va_G) (A : Nat → Prop) (h0 : Nat) (u : (Nat → Nat) × ClassId) (t : State) : Prop := va_P D vwCl (flTR h0 u) t.heap ∧ va_K D vwCl [(u.2, .int)] t ∧ va_D A (flTR h0 u)
set_option maxHeartbeats 4000000 in
set_option maxRecDepth 100000 in
theorem c_X3_init (l : Launch) (D : va_G) (h0 sz : Nat) : Met l yX3_init wsX3_init ({ frames := 3, cells := 2, slots := 151, locals := 72 }) (va_Pc [.ref h0] (fun U => U.heap.size = sz ∧ va_P D vwCl [(h0, .inr (2, [.int 0, .null, .int 0, .int 0, .int 0]))] U.heap ∧ va_K D vwCl [] U ∧ va_D (fun _ => True) [(h0, .inr (2, [.int 0, .null, .int 0, .int 0, .int 0]))])) (va_Qv (fun _ : (Nat → Nat) × ClassId => True) (atTR D (va_A [(h0, .inr (2, [.int 0, .null, .int 0, .int 0, .int 0]))] sz) h0) (va_A [(h0, .inr (2, [.int 0, .null, .int 0, .int 0, .int 0]))] sz)) 2 151 (va_A [(h0, .inr (2, [.int 0, .null, .int 0, .int 0, .int 0]))] sz) := by
  refine Met.ofW (cc := cX3_init) (maxL := 1) (ret := none) (by decide) rfl ?_
  intro p e s m args below meth c s₁ B hml hv
  obtain ⟨rfl, hsz, hP, hK, hD0⟩ := hv
  have hx := B.exec
  have hb := B.bytes
  have hr := B.returns
  have hts := atoms_spec (ws := wsX3_init) B.pre
  have hown : s.vm.findClass RX3 = some m.cls := findClass_of_methodNamed B.named
  have hin : meth.name = "<init>" := (name_of_methodNamed B.named B.method).1
  have in0 : ∀ w ∈ u_ws RX3 TX3 5, w ∈ wsX3_init := fun w h => List.mem_cons_of_mem _ (List.mem_append_left _ (List.mem_append_right _ h))
  have in2 : ∀ w ∈ u_ws RX2 TX2 1, w ∈ wsX3_init := fun w h => List.mem_cons_of_mem _ (List.mem_append_right _ h)
  subst hsz
  have hD := hD0.self (sz := s.heap.size)
  generalize hAe : va_A [(h0, .inr (2, [.int 0, .null, .int 0, .int 0, .int 0]))] s.heap.size = A at hD ⊢
  have hA : ∀ q : Nat, s.heap.size ≤ q → A q := fun q h => by rw [← hAe]; exact Or.inr h
  have hS : va_S A s.heap s.heap [] := va_S.rf
  have hP : va_P D vwCl [(h0, .inr (2, [.int 0, .null, .int 0, .int 0, .int 0]))] s.heap := hP
  have hl := lv_entry ([.ref h0]) (n := 1) (Nat.le_of_ble_eq_true rfl)
  rw [lg_entry_eq]
  generalize (lg_sl ([.ref h0]) ++ List.replicate (1 - (lg_sl ([.ref h0])).length) Slot.unset).toArray = ls at hl ⊢
  have hl : lv_has ls 1 [(0, .ref h0)] := hl
  refine lv_aload_n hx hb dX3_init_0 rfl (lv_at hl 0 rfl) ?_
  refine W.objInit hx hb hown (hts _ (List.mem_of_getElem? (i := 1) rfl)) (hts _ (List.mem_of_getElem? (i := 2) rfl)) (hts _ (List.mem_of_getElem? (i := 3) rfl)) rfl (by rw [hml]; exact hl.1) rfl dX3_init_1 (Nat.le_of_ble_eq_true rfl) (Nat.le_of_ble_eq_true rfl) ?_
  refine W.eq (g2 := F0 m 4 ls []) rfl ?_
  refine lv_aload_n hx hb dX3_init_4 rfl (lv_at hl 0 rfl) ?_
  refine lv_iconst (v := 0) hx hb dX3_init_5 (by decide) ?_
  refine va_put (D := D) (ci := 2) (v := .int 0) (ty := .int) (C := RX3) (T := TX3) (N := 5) hx hb hts in0 tyX3 tyX3_ok nmX3 hown hK hP hD hS 0 rfl rfl 0 (by decide) (hts _ (List.mem_of_getElem? (i := 4) rfl)) (fun _ h9 => h9) rfl (by decide +kernel) rfl rfl (Nat.le_of_ble_eq_true rfl) dX3_init_6 (fun H locs hP hD hS => ?_)
  have hP : va_P D vwCl [(h0, .inr (2, [.int 0, .null, .int 0, .int 0, .int 0]))] H := hP
  have hD : va_D A [(h0, .inr (2, [.int 0, .null, .int 0, .int 0, .int 0]))] := hD
  refine lv_aload_n hx hb dX3_init_9 rfl (lv_at hl 0 rfl) ?_
  refine va_new (ci := 1) (fs := [.null]) (C := RX2) (T := TX2) (N := 1) hx hb hts in2 tyX2 tyX2_ok hown (hts _ (List.mem_of_getElem? (i := 5) rfl)) (hts _ (List.mem_of_getElem? (i := 6) rfl)) (hts _ (List.mem_of_getElem? (i := 7) rfl)) hK hP hD hS hA rfl (fun j hj => by rcases (show j = 0 by omega) with rfl <;> rfl) (show 0 + 1 ≤ 2 by decide) (show 0 + 1 ≤ 151 by decide) dX3_init_10 (fun q10 H hP hD hS => ?_)
  have hP : va_P D vwCl [(h0, .inr (2, [.int 0, .null, .int 0, .int 0, .int 0])), (q10, .inr (1, [.null]))] H := hP
  have hD : va_D A [(h0, .inr (2, [.int 0, .null, .int 0, .int 0, .int 0])), (q10, .inr (1, [.null]))] := hD
  refine W.widen (k := 1) (n := 1) (by omega) (by omega) ?_
  refine lv_dup hx hb dX3_init_13 rfl ?_
  refine lv_sipush (v := nI 150) hx hb dX3_init_14 (by decide) ?_
  have hPc := hP.sub (ws' := [(q10, .inr (1, [.null]))]) [1] rfl
  have hDc := hD.sub (ws' := [(q10, .inr (1, [.null]))]) [1] (by decide) rfl
  have hKc := hK.sub (tys' := []) [] rfl
  have hFc := va_free (wc := [(q10, .inr (1, [.null]))]) hD hS hA [1] rfl
  refine va_callv (va_runI (As := [.int (nI 150)]) (rest := [.ref q10, .ref h0]) ⟨hx, hb, hml, hown, hts⟩ (c_X2_init l D q10 H.size 150 (by decide)) (cwI 1 hts gX3_init_X2_init rfl rfl rfl (hts _ (List.mem_of_getElem? (i := 7) rfl)) (hts _ (List.mem_of_getElem? (i := 12) rfl)) (hts _ (List.mem_of_getElem? (i := 13) rfl)) rfl (by decide +kernel) ⟨Nat.le_of_ble_eq_true rfl, Nat.le_of_ble_eq_true rfl⟩) ⟨fun a U g mk q => by obtain ⟨q0, q1, qP, qK, qD⟩ := q; exact ⟨q0, q1, qP, va_K.moved (u := U) (U := U.calling g mk a) (Vm.Alike.refl U.vm) qK, qD⟩, fun U hU hW => ⟨rfl, by rw [hU], by rw [hU]; exact hPc, va_K.moved hW.alike hKc, hDc.weaken (fun _ _ _ _ => trivial)⟩⟩ rfl rfl hl.1 rfl (lv_room (Nat.le_of_ble_eq_true rfl)) dX3_init_17 ⟨(show 1 + 1 ≤ 2 by decide), (show 1 + 150 ≤ 151 by decide)⟩) hS (fun q _ h => hFc q h) hFc (fun u t H1 locs ht hvm h5 hB hz1 hk1 hS => ?_)
  obtain ⟨a17, k17⟩ := u
  obtain ⟨hP1, hK1, hD1⟩ := hB
  rw [ht] at hP1
  have hK1 := va_K.moved hvm.symm hK1
  obtain ⟨hP, hD⟩ := va_join (wr := [(h0, .inr (2, [.int 0, .null, .int 0, .int 0, .int 0]))]) (w1 := [(q10, .inr (1, [.ref a17])), (a17, .inl (k17, 150, .inl (fun _ => 0)))]) hP hD [1] [0] rfl rfl (by decide) (by decide) hk1 hFc hP1 hD1
  have hK := (hK.sub (tys' := []) [] rfl).app hK1
  generalize H1 = H at hP hS ⊢
  have hP : va_P D vwCl [(h0, .inr (2, [.int 0, .null, .int 0, .int 0, .int 0])), (q10, .inr (1, [.ref a17])), (a17, .inl (k17, 150, .inl (fun _ => 0)))] H := hP
  have hD : va_D A [(h0, .inr (2, [.int 0, .null, .int 0, .int 0, .int 0])), (q10, .inr (1, [.ref a17])), (a17, .inl (k17, 150, .inl (fun _ => 0)))] := hD
  have hK : va_K D vwCl [(k17, .int)] s := hK
  refine va_putF (D := D) (ci := 2) (v := .ref q10) (ty := .object RX2) (C := RX3) (T := TX3) (N := 5) hx hb hts in0 tyX3 tyX3_ok nmX3 hown hK hP hD hS 0 rfl rfl 1 (by decide) (hts _ (List.mem_of_getElem? (i := 8) rfl)) (fun _ h9 => h9) rfl hin rfl (by decide +kernel) rfl rfl (Nat.le_of_ble_eq_true rfl) dX3_init_20 (fun H locs hP hD hS => ?_)
  have hP : va_P D vwCl [(h0, .inr (2, [.int 0, .ref q10, .int 0, .int 0, .int 0])), (q10, .inr (1, [.ref a17])), (a17, .inl (k17, 150, .inl (fun _ => 0)))] H := hP
  have hD : va_D A [(h0, .inr (2, [.int 0, .ref q10, .int 0, .int 0, .int 0])), (q10, .inr (1, [.ref a17])), (a17, .inl (k17, 150, .inl (fun _ => 0)))] := hD
  refine lv_aload_n hx hb dX3_init_23 rfl (lv_at hl 0 rfl) ?_
  refine lv_iconst (v := 0) hx hb dX3_init_24 (by decide) ?_
  refine va_put (D := D) (ci := 2) (v := .int 0) (ty := .int) (C := RX3) (T := TX3) (N := 5) hx hb hts in0 tyX3 tyX3_ok nmX3 hown hK hP hD hS 0 rfl rfl 2 (by decide) (hts _ (List.mem_of_getElem? (i := 9) rfl)) (fun _ h9 => h9) rfl (by decide +kernel) rfl rfl (Nat.le_of_ble_eq_true rfl) dX3_init_25 (fun H locs hP hD hS => ?_)
  have hP : va_P D vwCl [(h0, .inr (2, [.int 0, .ref q10, .int 0, .int 0, .int 0])), (q10, .inr (1, [.ref a17])), (a17, .inl (k17, 150, .inl (fun _ => 0)))] H := hP
  have hD : va_D A [(h0, .inr (2, [.int 0, .ref q10, .int 0, .int 0, .int 0])), (q10, .inr (1, [.ref a17])), (a17, .inl (k17, 150, .inl (fun _ => 0)))] := hD
  refine lv_aload_n hx hb dX3_init_28 rfl (lv_at hl 0 rfl) ?_
  refine lv_iconst (v := 0) hx hb dX3_init_29 (by decide) ?_
  refine va_put (D := D) (ci := 2) (v := .int 0) (ty := .int) (C := RX3) (T := TX3) (N := 5) hx hb hts in0 tyX3 tyX3_ok nmX3 hown hK hP hD hS 0 rfl rfl 3 (by decide) (hts _ (List.mem_of_getElem? (i := 10) rfl)) (fun _ h9 => h9) rfl (by decide +kernel) rfl rfl (Nat.le_of_ble_eq_true rfl) dX3_init_30 (fun H locs hP hD hS => ?_)
  have hP : va_P D vwCl [(h0, .inr (2, [.int 0, .ref q10, .int 0, .int 0, .int 0])), (q10, .inr (1, [.ref a17])), (a17, .inl (k17, 150, .inl (fun _ => 0)))] H := hP
  have hD : va_D A [(h0, .inr (2, [.int 0, .ref q10, .int 0, .int 0, .int 0])), (q10, .inr (1, [.ref a17])), (a17, .inl (k17, 150, .inl (fun _ => 0)))] := hD
  refine lv_aload_n hx hb dX3_init_33 rfl (lv_at hl 0 rfl) ?_
  refine lv_iconst (v := 0) hx hb dX3_init_34 (by decide) ?_
  refine va_put (D := D) (ci := 2) (v := .int 0) (ty := .int) (C := RX3) (T := TX3) (N := 5) hx hb hts in0 tyX3 tyX3_ok nmX3 hown hK hP hD hS 0 rfl rfl 4 (by decide) (hts _ (List.mem_of_getElem? (i := 11) rfl)) (fun _ h9 => h9) rfl (by decide +kernel) rfl rfl (Nat.le_of_ble_eq_true rfl) dX3_init_35 (fun H locs hP hD hS => ?_)
  have hP : va_P D vwCl [(h0, .inr (2, [.int 0, .ref q10, .int 0, .int 0, .int 0])), (q10, .inr (1, [.ref a17])), (a17, .inl (k17, 150, .inl (fun _ => 0)))] H := hP
  have hD : va_D A [(h0, .inr (2, [.int 0, .ref q10, .int 0, .int 0, .int 0])), (q10, .inr (1, [.ref a17])), (a17, .inl (k17, 150, .inl (fun _ => 0)))] := hD
  refine W.widen (k := 2) (n := 151) (by omega) (by omega) ?_
  exact W.vret hx hb hr (fun t ht hW => ⟨⟨(fun k => [h0, q10, a17].getD k 0, k17), rfl, trivial, by rw [ht]; exact hP, va_K.moved hW.alike hK, hD⟩, hS.F ht⟩) hS.2.2 dX3_init_38
