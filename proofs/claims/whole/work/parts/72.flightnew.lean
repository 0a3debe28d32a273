/-! constructors: a flight, a trip -/
theorem k_one {D : va_G} {cl : List vw_C} {a b : ClassId} {U : State} (h1 : va_K D cl [(a, .int)] U) (h2 : va_K D cl [(b, .int)] U) : a = b := by
  have e1 : U.vm.findClass ("[" ++ (FieldType.int).toString) = some a := (h1.2 0 (a, .int) rfl).2
  have e2 : U.vm.findClass ("[" ++ (FieldType.int).toString) = some b := (h2.2 0 (b, .int) rfl).2
  exact Option.some.inj (e1.symm.trans e2)
def flFL (h0 : Nat) (u : (Nat → Nat) × ClassId) : va_W := [(h0, .inr (0, [.int 0, .int 5, .int 0, .int 0, .int 0, .int 0, .int 0, .ref (u.1 1), .ref (u.1 3), .ref (u.1 5), .ref (u.1 7), .ref (u.1 9), .ref (u.1 11), .ref (u.1 13)])), (u.1 1, .inr (1, [.ref (u.1 2)])), (u.1 2, .inl (u.2, 8, .inl (fun _ => 0))), (u.1 3, .inr (1, [.ref (u.1 4)])), (u.1 4, .inl (u.2, 8, .inl (fun _ => 0))), (u.1 5, .inr (1, [.ref (u.1 6)])), (u.1 6, .inl (u.2, 6, .inl (fun _ => 0))), (u.1 7, .inr (1, [.ref (u.1 8)])), (u.1 8, .inl (u.2, 6, .inl (fun _ => 0))), (u.1 9, .inr (1, [.ref (u.1 10)])), (u.1 10, .inl (u.2, 8, .inl (fun _ => 0))), (u.1 11, .inr (1, [.ref (u.1 12)])), (u.1 12, .inl (u.2, 8, .inl (fun _ => 0))), (u.1 13, .inr (1, [.ref (u.1 14)])), (u.1 14, .inl (u.2, 8, .inl (fun _ => 0)))]
def atFL (D : va_G) (A : Nat → Prop) (h0 : Nat) (u : (Nat → Nat) × ClassId) (t : State) : Prop := va_P D vwCl (flFL h0 u) t.heap ∧ va_K D vwCl [(u.2, .int)] t ∧ va_D A (flFL h0 u)
set_option maxHeartbeats 4000000 in
set_option maxRecDepth 100000 in
theorem c_X0_init (l : Launch) (D : va_G) (h0 sz : Nat) : Met l yX0_init wsX0_init ({ frames := 3, cells := 14, slots := 59, locals := 72 }) (va_Pc [.ref h0] (fun U => U.heap.size = sz ∧ va_P D vwCl [(h0, .inr (0, [.int 0, .int 0, .int 0, .int 0, .int 0, .int 0, .int 0, .null, .null, .null, .null, .null, .null, .null]))] U.heap ∧ va_K D vwCl [] U ∧ va_D (fun _ => True) [(h0, .inr (0, [.int 0, .int 0, .int 0, .int 0, .int 0, .int 0, .int 0, .null, .null, .null, .null, .null, .null, .null]))])) (va_Qv (fun _ : (Nat → Nat) × ClassId => True) (atFL D (va_A [(h0, .inr (0, [.int 0, .int 0, .int 0, .int 0, .int 0, .int 0, .int 0, .null, .null, .null, .null, .null, .null, .null]))] sz) h0) (va_A [(h0, .inr (0, [.int 0, .int 0, .int 0, .int 0, .int 0, .int 0, .int 0, .null, .null, .null, .null, .null, .null, .null]))] sz)) 14 59 (va_A [(h0, .inr (0, [.int 0, .int 0, .int 0, .int 0, .int 0, .int 0, .int 0, .null, .null, .null, .null, .null, .null, .null]))] sz) := by
  refine Met.ofW (cc := cX0_init) (maxL := 1) (ret := none) (by decide) rfl ?_
  intro p e s m args below meth c s₁ B hml hv
  obtain ⟨rfl, hsz, hP, hK, hD0⟩ := hv
  have hx := B.exec
  have hb := B.bytes
  have hr := B.returns
  have hts := atoms_spec (ws := wsX0_init) B.pre
  have hown : s.vm.findClass RX0 = some m.cls := findClass_of_methodNamed B.named
  have hin : meth.name = "<init>" := (name_of_methodNamed B.named B.method).1
  have in0 : ∀ w ∈ u_ws RX0 TX0 14, w ∈ wsX0_init := fun w h => List.mem_cons_of_mem _ (List.mem_append_left _ (List.mem_append_right _ h))
  have in2 : ∀ w ∈ u_ws RX2 TX2 1, w ∈ wsX0_init := fun w h => List.mem_cons_of_mem _ (List.mem_append_right _ h)
  subst hsz
  have hD := hD0.self (sz := s.heap.size)
  generalize hAe : va_A [(h0, .inr (0, [.int 0, .int 0, .int 0, .int 0, .int 0, .int 0, .int 0, .null, .null, .null, .null, .null, .null, .null]))] s.heap.size = A at hD ⊢
  have hA : ∀ q : Nat, s.heap.size ≤ q → A q := fun q h => by rw [← hAe]; exact Or.inr h
  have hS : va_S A s.heap s.heap [] := va_S.rf
  have hP : va_P D vwCl [(h0, .inr (0, [.int 0, .int 0, .int 0, .int 0, .int 0, .int 0, .int 0, .null, .null, .null, .null, .null, .null, .null]))] s.heap := hP
  have hl := lv_entry ([.ref h0]) (n := 1) (Nat.le_of_ble_eq_true rfl)
  rw [lg_entry_eq]
  generalize (lg_sl ([.ref h0]) ++ List.replicate (1 - (lg_sl ([.ref h0])).length) Slot.unset).toArray = ls at hl ⊢
  have hl : lv_has ls 1 [(0, .ref h0)] := hl
  refine lv_aload_n hx hb dX0_init_0 rfl (lv_at hl 0 rfl) ?_
  refine W.objInit hx hb hown (hts _ (List.mem_of_getElem? (i := 1) rfl)) (hts _ (List.mem_of_getElem? (i := 2) rfl)) (hts _ (List.mem_of_getElem? (i := 3) rfl)) rfl (by rw [hml]; exact hl.1) rfl dX0_init_1 (Nat.le_of_ble_eq_true rfl) (Nat.le_of_ble_eq_true rfl) ?_
  refine W.eq (g2 := F0 m 4 ls []) rfl ?_
  refine lv_aload_n hx hb dX0_init_4 rfl (lv_at hl 0 rfl) ?_
  refine lv_iconst (v := 0) hx hb dX0_init_5 (by decide) ?_
  refine va_put (D := D) (ci := 0) (v := .int 0) (ty := .int) (C := RX0) (T := TX0) (N := 14) hx hb hts in0 tyX0 tyX0_ok nmX0 hown hK hP hD hS 0 rfl rfl 0 (by decide) (hts _ (List.mem_of_getElem? (i := 4) rfl)) (fun _ h9 => h9) rfl (by decide +kernel) rfl rfl (Nat.le_of_ble_eq_true rfl) dX0_init_6 (fun H locs hP hD hS => ?_)
  have hP : va_P D vwCl [(h0, .inr (0, [.int 0, .int 0, .int 0, .int 0, .int 0, .int 0, .int 0, .null, .null, .null, .null, .null, .null, .null]))] H := hP
  have hD : va_D A [(h0, .inr (0, [.int 0, .int 0, .int 0, .int 0, .int 0, .int 0, .int 0, .null, .null, .null, .null, .null, .null, .null]))] := hD
  refine lv_aload_n hx hb dX0_init_9 rfl (lv_at hl 0 rfl) ?_
  refine lv_iconst (v := 5) hx hb dX0_init_10 (by decide) ?_
  refine va_put (D := D) (ci := 0) (v := .int 5) (ty := .int) (C := RX0) (T := TX0) (N := 14) hx hb hts in0 tyX0 tyX0_ok nmX0 hown hK hP hD hS 0 rfl rfl 1 (by decide) (hts _ (List.mem_of_getElem? (i := 5) rfl)) (fun _ h9 => h9) rfl (by decide +kernel) rfl rfl (Nat.le_of_ble_eq_true rfl) dX0_init_11 (fun H locs hP hD hS => ?_)
  have hP : va_P D vwCl [(h0, .inr (0, [.int 0, .int 5, .int 0, .int 0, .int 0, .int 0, .int 0, .null, .null, .null, .null, .null, .null, .null]))] H := hP
  have hD : va_D A [(h0, .inr (0, [.int 0, .int 5, .int 0, .int 0, .int 0, .int 0, .int 0, .null, .null, .null, .null, .null, .null, .null]))] := hD
  refine lv_aload_n hx hb dX0_init_14 rfl (lv_at hl 0 rfl) ?_
  refine lv_iconst (v := 0) hx hb dX0_init_15 (by decide) ?_
  refine va_put (D := D) (ci := 0) (v := .int 0) (ty := .int) (C := RX0) (T := TX0) (N := 14) hx hb hts in0 tyX0 tyX0_ok nmX0 hown hK hP hD hS 0 rfl rfl 2 (by decide) (hts _ (List.mem_of_getElem? (i := 6) rfl)) (fun _ h9 => h9) rfl (by decide +kernel) rfl rfl (Nat.le_of_ble_eq_true rfl) dX0_init_16 (fun H locs hP hD hS => ?_)
  have hP : va_P D vwCl [(h0, .inr (0, [.int 0, .int 5, .int 0, .int 0, .int 0, .int 0, .int 0, .null, .null, .null, .null, .null, .null, .null]))] H := hP
  have hD : va_D A [(h0, .inr (0, [.int 0, .int 5, .int 0, .int 0, .int 0, .int 0, .int 0, .null, .null, .null, .null, .null, .null, .null]))] := hD
  refine lv_aload_n hx hb dX0_init_19 rfl (lv_at hl 0 rfl) ?_
  refine lv_iconst (v := 0) hx hb dX0_init_20 (by decide) ?_
  refine va_put (D := D) (ci := 0) (v := .int 0) (ty := .int) (C := RX0) (T := TX0) (N := 14) hx hb hts in0 tyX0 tyX0_ok nmX0 hown hK hP hD hS 0 rfl rfl 3 (by decide) (hts _ (List.mem_of_getElem? (i := 7) rfl)) (fun _ h9 => h9) rfl (by decide +kernel) rfl rfl (Nat.le_of_ble_eq_true rfl) dX0_init_21 (fun H locs hP hD hS => ?_)
  have hP : va_P D vwCl [(h0, .inr (0, [.int 0, .int 5, .int 0, .int 0, .int 0, .int 0, .int 0, .null, .null, .null, .null, .null, .null, .null]))] H := hP
  have hD : va_D A [(h0, .inr (0, [.int 0, .int 5, .int 0, .int 0, .int 0, .int 0, .int 0, .null, .null, .null, .null, .null, .null, .null]))] := hD
  refine lv_aload_n hx hb dX0_init_24 rfl (lv_at hl 0 rfl) ?_
  refine lv_iconst (v := 0) hx hb dX0_init_25 (by decide) ?_
  refine va_put (D := D) (ci := 0) (v := .int 0) (ty := .int) (C := RX0) (T := TX0) (N := 14) hx hb hts in0 tyX0 tyX0_ok nmX0 hown hK hP hD hS 0 rfl rfl 4 (by decide) (hts _ (List.mem_of_getElem? (i := 8) rfl)) (fun _ h9 => h9) rfl (by decide +kernel) rfl rfl (Nat.le_of_ble_eq_true rfl) dX0_init_26 (fun H locs hP hD hS => ?_)
  have hP : va_P D vwCl [(h0, .inr (0, [.int 0, .int 5, .int 0, .int 0, .int 0, .int 0, .int 0, .null, .null, .null, .null, .null, .null, .null]))] H := hP
  have hD : va_D A [(h0, .inr (0, [.int 0, .int 5, .int 0, .int 0, .int 0, .int 0, .int 0, .null, .null, .null, .null, .null, .null, .null]))] := hD
  refine lv_aload_n hx hb dX0_init_29 rfl (lv_at hl 0 rfl) ?_
  refine lv_iconst (v := 0) hx hb dX0_init_30 (by decide) ?_
  refine va_put (D := D) (ci := 0) (v := .int 0) (ty := .int) (C := RX0) (T := TX0) (N := 14) hx hb hts in0 tyX0 tyX0_ok nmX0 hown hK hP hD hS 0 rfl rfl 5 (by decide) (hts _ (List.mem_of_getElem? (i := 9) rfl)) (fun _ h9 => h9) rfl (by decide +kernel) rfl rfl (Nat.le_of_ble_eq_true rfl) dX0_init_31 (fun H locs hP hD hS => ?_)
  have hP : va_P D vwCl [(h0, .inr (0, [.int 0, .int 5, .int 0, .int 0, .int 0, .int 0, .int 0, .null, .null, .null, .null, .null, .null, .null]))] H := hP
  have hD : va_D A [(h0, .inr (0, [.int 0, .int 5, .int 0, .int 0, .int 0, .int 0, .int 0, .null, .null, .null, .null, .null, .null, .null]))] := hD
  refine lv_aload_n hx hb dX0_init_34 rfl (lv_at hl 0 rfl) ?_
  refine lv_iconst (v := 0) hx hb dX0_init_35 (by decide) ?_
  refine va_put (D := D) (ci := 0) (v := .int 0) (ty := .int) (C := RX0) (T := TX0) (N := 14) hx hb hts in0 tyX0 tyX0_ok nmX0 hown hK hP hD hS 0 rfl rfl 6 (by decide) (hts _ (List.mem_of_getElem? (i := 10) rfl)) (fun _ h9 => h9) rfl (by decide +kernel) rfl rfl (Nat.le_of_ble_eq_true rfl) dX0_init_36 (fun H locs hP hD hS => ?_)
  have hP : va_P D vwCl [(h0, .inr (0, [.int 0, .int 5, .int 0, .int 0, .int 0, .int 0, .int 0, .null, .null, .null, .null, .null, .null, .null]))] H := hP
  have hD : va_D A [(h0, .inr (0, [.int 0, .int 5, .int 0, .int 0, .int 0, .int 0, .int 0, .null, .null, .null, .null, .null, .null, .null]))] := hD
  refine lv_aload_n hx hb dX0_init_39 rfl (lv_at hl 0 rfl) ?_
  refine va_new (ci := 1) (fs := [.null]) (C := RX2) (T := TX2) (N := 1) hx hb hts in2 tyX2 tyX2_ok hown (hts _ (List.mem_of_getElem? (i := 11) rfl)) (hts _ (List.mem_of_getElem? (i := 12) rfl)) (hts _ (List.mem_of_getElem? (i := 13) rfl)) hK hP hD hS hA rfl (fun j hj => by rcases (show j = 0 by omega) with rfl <;> rfl) (show 0 + 1 ≤ 14 by decide) (show 0 + 1 ≤ 59 by decide) dX0_init_40 (fun q40 H hP hD hS => ?_)
  have hP : va_P D vwCl [(h0, .inr (0, [.int 0, .int 5, .int 0, .int 0, .int 0, .int 0, .int 0, .null, .null, .null, .null, .null, .null, .null])), (q40, .inr (1, [.null]))] H := hP
  have hD : va_D A [(h0, .inr (0, [.int 0, .int 5, .int 0, .int 0, .int 0, .int 0, .int 0, .null, .null, .null, .null, .null, .null, .null])), (q40, .inr (1, [.null]))] := hD
  refine W.widen (k := 1) (n := 1) (by omega) (by omega) ?_
  refine lv_dup hx hb dX0_init_43 rfl ?_
  refine lv_bipush (v := nI 8) hx hb dX0_init_44 (by decide) ?_
  have hPc := hP.sub (ws' := [(q40, .inr (1, [.null]))]) [1] rfl
  have hDc := hD.sub (ws' := [(q40, .inr (1, [.null]))]) [1] (by decide) rfl
  have hKc := hK.sub (tys' := []) [] rfl
  have hFc := va_free (wc := [(q40, .inr (1, [.null]))]) hD hS hA [1] rfl
  refine va_callv (va_runI (As := [.int (nI 8)]) (rest := [.ref q40, .ref h0]) ⟨hx, hb, hml, hown, hts⟩ (c_X2_init l D q40 H.size 8 (by decide)) (cwI 1 hts gX0_init_X2_init rfl rfl rfl (hts _ (List.mem_of_getElem? (i := 13) rfl)) (hts _ (List.mem_of_getElem? (i := 21) rfl)) (hts _ (List.mem_of_getElem? (i := 22) rfl)) rfl (by decide +kernel) ⟨Nat.le_of_ble_eq_true rfl, Nat.le_of_ble_eq_true rfl⟩) ⟨fun a U g mk q => by obtain ⟨q0, q1, qP, qK, qD⟩ := q; exact ⟨q0, q1, qP, va_K.moved (u := U) (U := U.calling g mk a) (Vm.Alike.refl U.vm) qK, qD⟩, fun U hU hW => ⟨rfl, by rw [hU], by rw [hU]; exact hPc, va_K.moved hW.alike hKc, hDc.weaken (fun _ _ _ _ => trivial)⟩⟩ rfl rfl hl.1 rfl (lv_room (Nat.le_of_ble_eq_true rfl)) dX0_init_46 ⟨(show 1 + 1 ≤ 14 by decide), (show 1 + 8 ≤ 59 by decide)⟩) hS (fun q _ h => hFc q h) hFc (fun u t H1 locs ht hvm h5 hB hz1 hk1 hS => ?_)
  obtain ⟨a46, k46⟩ := u
  obtain ⟨hP1, hK1, hD1⟩ := hB
  rw [ht] at hP1
  have hK1 := va_K.moved hvm.symm hK1
  obtain ⟨hP, hD⟩ := va_join (wr := [(h0, .inr (0, [.int 0, .int 5, .int 0, .int 0, .int 0, .int 0, .int 0, .null, .null, .null, .null, .null, .null, .null]))]) (w1 := [(q40, .inr (1, [.ref a46])), (a46, .inl (k46, 8, .inl (fun _ => 0)))]) hP hD [1] [0] rfl rfl (by decide) (by decide) hk1 hFc hP1 hD1
  have hK := (hK.sub (tys' := []) [] rfl).app hK1
  generalize H1 = H at hP hS ⊢
  have hP : va_P D vwCl [(h0, .inr (0, [.int 0, .int 5, .int 0, .int 0, .int 0, .int 0, .int 0, .null, .null, .null, .null, .null, .null, .null])), (q40, .inr (1, [.ref a46])), (a46, .inl (k46, 8, .inl (fun _ => 0)))] H := hP
  have hD : va_D A [(h0, .inr (0, [.int 0, .int 5, .int 0, .int 0, .int 0, .int 0, .int 0, .null, .null, .null, .null, .null, .null, .null])), (q40, .inr (1, [.ref a46])), (a46, .inl (k46, 8, .inl (fun _ => 0)))] := hD
  have hK : va_K D vwCl [(k46, .int)] s := hK
  refine va_putF (D := D) (ci := 0) (v := .ref q40) (ty := .object RX2) (C := RX0) (T := TX0) (N := 14) hx hb hts in0 tyX0 tyX0_ok nmX0 hown hK hP hD hS 0 rfl rfl 7 (by decide) (hts _ (List.mem_of_getElem? (i := 14) rfl)) (fun _ h9 => h9) rfl hin rfl (by decide +kernel) rfl rfl (Nat.le_of_ble_eq_true rfl) dX0_init_49 (fun H locs hP hD hS => ?_)
  have hP : va_P D vwCl [(h0, .inr (0, [.int 0, .int 5, .int 0, .int 0, .int 0, .int 0, .int 0, .ref q40, .null, .null, .null, .null, .null, .null])), (q40, .inr (1, [.ref a46])), (a46, .inl (k46, 8, .inl (fun _ => 0)))] H := hP
  have hD : va_D A [(h0, .inr (0, [.int 0, .int 5, .int 0, .int 0, .int 0, .int 0, .int 0, .ref q40, .null, .null, .null, .null, .null, .null])), (q40, .inr (1, [.ref a46])), (a46, .inl (k46, 8, .inl (fun _ => 0)))] := hD
  refine lv_aload_n hx hb dX0_init_52 rfl (lv_at hl 0 rfl) ?_
  refine va_new (ci := 1) (fs := [.null]) (C := RX2) (T := TX2) (N := 1) hx hb hts in2 tyX2 tyX2_ok hown (hts _ (List.mem_of_getElem? (i := 11) rfl)) (hts _ (List.mem_of_getElem? (i := 12) rfl)) (hts _ (List.mem_of_getElem? (i := 13) rfl)) hK hP hD hS hA rfl (fun j hj => by rcases (show j = 0 by omega) with rfl <;> rfl) (show 2 + 1 ≤ 14 by decide) (show 9 + 1 ≤ 59 by decide) dX0_init_53 (fun q53 H hP hD hS => ?_)
  have hP : va_P D vwCl [(h0, .inr (0, [.int 0, .int 5, .int 0, .int 0, .int 0, .int 0, .int 0, .ref q40, .null, .null, .null, .null, .null, .null])), (q40, .inr (1, [.ref a46])), (a46, .inl (k46, 8, .inl (fun _ => 0))), (q53, .inr (1, [.null]))] H := hP
  have hD : va_D A [(h0, .inr (0, [.int 0, .int 5, .int 0, .int 0, .int 0, .int 0, .int 0, .ref q40, .null, .null, .null, .null, .null, .null])), (q40, .inr (1, [.ref a46])), (a46, .inl (k46, 8, .inl (fun _ => 0))), (q53, .inr (1, [.null]))] := hD
  refine W.widen (k := 3) (n := 10) (by omega) (by omega) ?_
  refine lv_dup hx hb dX0_init_56 rfl ?_
  refine lv_bipush (v := nI 8) hx hb dX0_init_57 (by decide) ?_
  have hPc := hP.sub (ws' := [(q53, .inr (1, [.null]))]) [3] rfl
  have hDc := hD.sub (ws' := [(q53, .inr (1, [.null]))]) [3] (by decide) rfl
  have hKc := hK.sub (tys' := []) [] rfl
  have hFc := va_free (wc := [(q53, .inr (1, [.null]))]) hD hS hA [3] rfl
  refine va_callv (va_runI (As := [.int (nI 8)]) (rest := [.ref q53, .ref h0]) ⟨hx, hb, hml, hown, hts⟩ (c_X2_init l D q53 H.size 8 (by decide)) (cwI 1 hts gX0_init_X2_init rfl rfl rfl (hts _ (List.mem_of_getElem? (i := 13) rfl)) (hts _ (List.mem_of_getElem? (i := 21) rfl)) (hts _ (List.mem_of_getElem? (i := 22) rfl)) rfl (by decide +kernel) ⟨Nat.le_of_ble_eq_true rfl, Nat.le_of_ble_eq_true rfl⟩) ⟨fun a U g mk q => by obtain ⟨q0, q1, qP, qK, qD⟩ := q; exact ⟨q0, q1, qP, va_K.moved (u := U) (U := U.calling g mk a) (Vm.Alike.refl U.vm) qK, qD⟩, fun U hU hW => ⟨rfl, by rw [hU], by rw [hU]; exact hPc, va_K.moved hW.alike hKc, hDc.weaken (fun _ _ _ _ => trivial)⟩⟩ rfl rfl hl.1 rfl (lv_room (Nat.le_of_ble_eq_true rfl)) dX0_init_59 ⟨(show 3 + 1 ≤ 14 by decide), (show 10 + 8 ≤ 59 by decide)⟩) hS (fun q _ h => hFc q h) hFc (fun u t H1 locs ht hvm h5 hB hz1 hk1 hS => ?_)
  obtain ⟨a59, k59⟩ := u
  obtain ⟨hP1, hK1, hD1⟩ := hB
  rw [ht] at hP1
  have hK1 := va_K.moved hvm.symm hK1
  obtain ⟨hP, hD⟩ := va_join (wr := [(h0, .inr (0, [.int 0, .int 5, .int 0, .int 0, .int 0, .int 0, .int 0, .ref q40, .null, .null, .null, .null, .null, .null])), (q40, .inr (1, [.ref a46])), (a46, .inl (k46, 8, .inl (fun _ => 0)))]) (w1 := [(q53, .inr (1, [.ref a59])), (a59, .inl (k59, 8, .inl (fun _ => 0)))]) hP hD [3] [0, 1, 2] rfl rfl (by decide) (by decide) hk1 hFc hP1 hD1
  have hcc : k46 = k59 := k_one hK hK1
  subst hcc
  generalize H1 = H at hP hS ⊢
  have hP : va_P D vwCl [(h0, .inr (0, [.int 0, .int 5, .int 0, .int 0, .int 0, .int 0, .int 0, .ref q40, .null, .null, .null, .null, .null, .null])), (q40, .inr (1, [.ref a46])), (a46, .inl (k46, 8, .inl (fun _ => 0))), (q53, .inr (1, [.ref a59])), (a59, .inl (k46, 8, .inl (fun _ => 0)))] H := hP
  have hD : va_D A [(h0, .inr (0, [.int 0, .int 5, .int 0, .int 0, .int 0, .int 0, .int 0, .ref q40, .null, .null, .null, .null, .null, .null])), (q40, .inr (1, [.ref a46])), (a46, .inl (k46, 8, .inl (fun _ => 0))), (q53, .inr (1, [.ref a59])), (a59, .inl (k46, 8, .inl (fun _ => 0)))] := hD
  have hK : va_K D vwCl [(k46, .int)] s := hK
  refine va_putF (D := D) (ci := 0) (v := .ref q53) (ty := .object RX2) (C := RX0) (T := TX0) (N := 14) hx hb hts in0 tyX0 tyX0_ok nmX0 hown hK hP hD hS 0 rfl rfl 8 (by decide) (hts _ (List.mem_of_getElem? (i := 15) rfl)) (fun _ h9 => h9) rfl hin rfl (by decide +kernel) rfl rfl (Nat.le_of_ble_eq_true rfl) dX0_init_62 (fun H locs hP hD hS => ?_)
  have hP : va_P D vwCl [(h0, .inr (0, [.int 0, .int 5, .int 0, .int 0, .int 0, .int 0, .int 0, .ref q40, .ref q53, .null, .null, .null, .null, .null])), (q40, .inr (1, [.ref a46])), (a46, .inl (k46, 8, .inl (fun _ => 0))), (q53, .inr (1, [.ref a59])), (a59, .inl (k46, 8, .inl (fun _ => 0)))] H := hP
  have hD : va_D A [(h0, .inr (0, [.int 0, .int 5, .int 0, .int 0, .int 0, .int 0, .int 0, .ref q40, .ref q53, .null, .null, .null, .null, .null])), (q40, .inr (1, [.ref a46])), (a46, .inl (k46, 8, .inl (fun _ => 0))), (q53, .inr (1, [.ref a59])), (a59, .inl (k46, 8, .inl (fun _ => 0)))] := hD
  refine lv_aload_n hx hb dX0_init_65 rfl (lv_at hl 0 rfl) ?_
  refine va_new (ci := 1) (fs := [.null]) (C := RX2) (T := TX2) (N := 1) hx hb hts in2 tyX2 tyX2_ok hown (hts _ (List.mem_of_getElem? (i := 11) rfl)) (hts _ (List.mem_of_getElem? (i := 12) rfl)) (hts _ (List.mem_of_getElem? (i := 13) rfl)) hK hP hD hS hA rfl (fun j hj => by rcases (show j = 0 by omega) with rfl <;> rfl) (show 4 + 1 ≤ 14 by decide) (show 18 + 1 ≤ 59 by decide) dX0_init_66 (fun q66 H hP hD hS => ?_)
  have hP : va_P D vwCl [(h0, .inr (0, [.int 0, .int 5, .int 0, .int 0, .int 0, .int 0, .int 0, .ref q40, .ref q53, .null, .null, .null, .null, .null])), (q40, .inr (1, [.ref a46])), (a46, .inl (k46, 8, .inl (fun _ => 0))), (q53, .inr (1, [.ref a59])), (a59, .inl (k46, 8, .inl (fun _ => 0))), (q66, .inr (1, [.null]))] H := hP
  have hD : va_D A [(h0, .inr (0, [.int 0, .int 5, .int 0, .int 0, .int 0, .int 0, .int 0, .ref q40, .ref q53, .null, .null, .null, .null, .null])), (q40, .inr (1, [.ref a46])), (a46, .inl (k46, 8, .inl (fun _ => 0))), (q53, .inr (1, [.ref a59])), (a59, .inl (k46, 8, .inl (fun _ => 0))), (q66, .inr (1, [.null]))] := hD
  refine W.widen (k := 5) (n := 19) (by omega) (by omega) ?_
  refine lv_dup hx hb dX0_init_69 rfl ?_
  refine lv_bipush (v := nI 6) hx hb dX0_init_70 (by decide) ?_
  have hPc := hP.sub (ws' := [(q66, .inr (1, [.null]))]) [5] rfl
  have hDc := hD.sub (ws' := [(q66, .inr (1, [.null]))]) [5] (by decide) rfl
  have hKc := hK.sub (tys' := []) [] rfl
  have hFc := va_free (wc := [(q66, .inr (1, [.null]))]) hD hS hA [5] rfl
  refine va_callv (va_runI (As := [.int (nI 6)]) (rest := [.ref q66, .ref h0]) ⟨hx, hb, hml, hown, hts⟩ (c_X2_init l D q66 H.size 6 (by decide)) (cwI 1 hts gX0_init_X2_init rfl rfl rfl (hts _ (List.mem_of_getElem? (i := 13) rfl)) (hts _ (List.mem_of_getElem? (i := 21) rfl)) (hts _ (List.mem_of_getElem? (i := 22) rfl)) rfl (by decide +kernel) ⟨Nat.le_of_ble_eq_true rfl, Nat.le_of_ble_eq_true rfl⟩) ⟨fun a U g mk q => by obtain ⟨q0, q1, qP, qK, qD⟩ := q; exact ⟨q0, q1, qP, va_K.moved (u := U) (U := U.calling g mk a) (Vm.Alike.refl U.vm) qK, qD⟩, fun U hU hW => ⟨rfl, by rw [hU], by rw [hU]; exact hPc, va_K.moved hW.alike hKc, hDc.weaken (fun _ _ _ _ => trivial)⟩⟩ rfl rfl hl.1 rfl (lv_room (Nat.le_of_ble_eq_true rfl)) dX0_init_72 ⟨(show 5 + 1 ≤ 14 by decide), (show 19 + 6 ≤ 59 by decide)⟩) hS (fun q _ h => hFc q h) hFc (fun u t H1 locs ht hvm h5 hB hz1 hk1 hS => ?_)
  obtain ⟨a72, k72⟩ := u
  obtain ⟨hP1, hK1, hD1⟩ := hB
  rw [ht] at hP1
  have hK1 := va_K.moved hvm.symm hK1
  obtain ⟨hP, hD⟩ := va_join (wr := [(h0, .inr (0, [.int 0, .int 5, .int 0, .int 0, .int 0, .int 0, .int 0, .ref q40, .ref q53, .null, .null, .null, .null, .null])), (q40, .inr (1, [.ref a46])), (a46, .inl (k46, 8, .inl (fun _ => 0))), (q53, .inr (1, [.ref a59])), (a59, .inl (k46, 8, .inl (fun _ => 0)))]) (w1 := [(q66, .inr (1, [.ref a72])), (a72, .inl (k72, 6, .inl (fun _ => 0)))]) hP hD [5] [0, 1, 2, 3, 4] rfl rfl (by decide) (by decide) hk1 hFc hP1 hD1
  have hcc : k46 = k72 := k_one hK hK1
  subst hcc
  generalize H1 = H at hP hS ⊢
  have hP : va_P D vwCl [(h0, .inr (0, [.int 0, .int 5, .int 0, .int 0, .int 0, .int 0, .int 0, .ref q40, .ref q53, .null, .null, .null, .null, .null])), (q40, .inr (1, [.ref a46])), (a46, .inl (k46, 8, .inl (fun _ => 0))), (q53, .inr (1, [.ref a59])), (a59, .inl (k46, 8, .inl (fun _ => 0))), (q66, .inr (1, [.ref a72])), (a72, .inl (k46, 6, .inl (fun _ => 0)))] H := hP
  have hD : va_D A [(h0, .inr (0, [.int 0, .int 5, .int 0, .int 0, .int 0, .int 0, .int 0, .ref q40, .ref q53, .null, .null, .null, .null, .null])), (q40, .inr (1, [.ref a46])), (a46, .inl (k46, 8, .inl (fun _ => 0))), (q53, .inr (1, [.ref a59])), (a59, .inl (k46, 8, .inl (fun _ => 0))), (q66, .inr (1, [.ref a72])), (a72, .inl (k46, 6, .inl (fun _ => 0)))] := hD
  have hK : va_K D vwCl [(k46, .int)] s := hK
  refine va_putF (D := D) (ci := 0) (v := .ref q66) (ty := .object RX2) (C := RX0) (T := TX0) (N := 14) hx hb hts in0 tyX0 tyX0_ok nmX0 hown hK hP hD hS 0 rfl rfl 9 (by decide) (hts _ (List.mem_of_getElem? (i := 16) rfl)) (fun _ h9 => h9) rfl hin rfl (by decide +kernel) rfl rfl (Nat.le_of_ble_eq_true rfl) dX0_init_75 (fun H locs hP hD hS => ?_)
  have hP : va_P D vwCl [(h0, .inr (0, [.int 0, .int 5, .int 0, .int 0, .int 0, .int 0, .int 0, .ref q40, .ref q53, .ref q66, .null, .null, .null, .null])), (q40, .inr (1, [.ref a46])), (a46, .inl (k46, 8, .inl (fun _ => 0))), (q53, .inr (1, [.ref a59])), (a59, .inl (k46, 8, .inl (fun _ => 0))), (q66, .inr (1, [.ref a72])), (a72, .inl (k46, 6, .inl (fun _ => 0)))] H := hP
  have hD : va_D A [(h0, .inr (0, [.int 0, .int 5, .int 0, .int 0, .int 0, .int 0, .int 0, .ref q40, .ref q53, .ref q66, .null, .null, .null, .null])), (q40, .inr (1, [.ref a46])), (a46, .inl (k46, 8, .inl (fun _ => 0))), (q53, .inr (1, [.ref a59])), (a59, .inl (k46, 8, .inl (fun _ => 0))), (q66, .inr (1, [.ref a72])), (a72, .inl (k46, 6, .inl (fun _ => 0)))] := hD
  refine lv_aload_n hx hb dX0_init_78 rfl (lv_at hl 0 rfl) ?_
  refine va_new (ci := 1) (fs := [.null]) (C := RX2) (T := TX2) (N := 1) hx hb hts in2 tyX2 tyX2_ok hown (hts _ (List.mem_of_getElem? (i := 11) rfl)) (hts _ (List.mem_of_getElem? (i := 12) rfl)) (hts _ (List.mem_of_getElem? (i := 13) rfl)) hK hP hD hS hA rfl (fun j hj => by rcases (show j = 0 by omega) with rfl <;> rfl) (show 6 + 1 ≤ 14 by decide) (show 25 + 1 ≤ 59 by decide) dX0_init_79 (fun q79 H hP hD hS => ?_)
  have hP : va_P D vwCl [(h0, .inr (0, [.int 0, .int 5, .int 0, .int 0, .int 0, .int 0, .int 0, .ref q40, .ref q53, .ref q66, .null, .null, .null, .null])), (q40, .inr (1, [.ref a46])), (a46, .inl (k46, 8, .inl (fun _ => 0))), (q53, .inr (1, [.ref a59])), (a59, .inl (k46, 8, .inl (fun _ => 0))), (q66, .inr (1, [.ref a72])), (a72, .inl (k46, 6, .inl (fun _ => 0))), (q79, .inr (1, [.null]))] H := hP
  have hD : va_D A [(h0, .inr (0, [.int 0, .int 5, .int 0, .int 0, .int 0, .int 0, .int 0, .ref q40, .ref q53, .ref q66, .null, .null, .null, .null])), (q40, .inr (1, [.ref a46])), (a46, .inl (k46, 8, .inl (fun _ => 0))), (q53, .inr (1, [.ref a59])), (a59, .inl (k46, 8, .inl (fun _ => 0))), (q66, .inr (1, [.ref a72])), (a72, .inl (k46, 6, .inl (fun _ => 0))), (q79, .inr (1, [.null]))] := hD
  refine W.widen (k := 7) (n := 26) (by omega) (by omega) ?_
  refine lv_dup hx hb dX0_init_82 rfl ?_
  refine lv_bipush (v := nI 6) hx hb dX0_init_83 (by decide) ?_
  have hPc := hP.sub (ws' := [(q79, .inr (1, [.null]))]) [7] rfl
  have hDc := hD.sub (ws' := [(q79, .inr (1, [.null]))]) [7] (by decide) rfl
  have hKc := hK.sub (tys' := []) [] rfl
  have hFc := va_free (wc := [(q79, .inr (1, [.null]))]) hD hS hA [7] rfl
  refine va_callv (va_runI (As := [.int (nI 6)]) (rest := [.ref q79, .ref h0]) ⟨hx, hb, hml, hown, hts⟩ (c_X2_init l D q79 H.size 6 (by decide)) (cwI 1 hts gX0_init_X2_init rfl rfl rfl (hts _ (List.mem_of_getElem? (i := 13) rfl)) (hts _ (List.mem_of_getElem? (i := 21) rfl)) (hts _ (List.mem_of_getElem? (i := 22) rfl)) rfl (by decide +kernel) ⟨Nat.le_of_ble_eq_true rfl, Nat.le_of_ble_eq_true rfl⟩) ⟨fun a U g mk q => by obtain ⟨q0, q1, qP, qK, qD⟩ := q; exact ⟨q0, q1, qP, va_K.moved (u := U) (U := U.calling g mk a) (Vm.Alike.refl U.vm) qK, qD⟩, fun U hU hW => ⟨rfl, by rw [hU], by rw [hU]; exact hPc, va_K.moved hW.alike hKc, hDc.weaken (fun _ _ _ _ => trivial)⟩⟩ rfl rfl hl.1 rfl (lv_room (Nat.le_of_ble_eq_true rfl)) dX0_init_85 ⟨(show 7 + 1 ≤ 14 by decide), (show 26 + 6 ≤ 59 by decide)⟩) hS (fun q _ h => hFc q h) hFc (fun u t H1 locs ht hvm h5 hB hz1 hk1 hS => ?_)
  obtain ⟨a85, k85⟩ := u
  obtain ⟨hP1, hK1, hD1⟩ := hB
  rw [ht] at hP1
  have hK1 := va_K.moved hvm.symm hK1
  obtain ⟨hP, hD⟩ := va_join (wr := [(h0, .inr (0, [.int 0, .int 5, .int 0, .int 0, .int 0, .int 0, .int 0, .ref q40, .ref q53, .ref q66, .null, .null, .null, .null])), (q40, .inr (1, [.ref a46])), (a46, .inl (k46, 8, .inl (fun _ => 0))), (q53, .inr (1, [.ref a59])), (a59, .inl (k46, 8, .inl (fun _ => 0))), (q66, .inr (1, [.ref a72])), (a72, .inl (k46, 6, .inl (fun _ => 0)))]) (w1 := [(q79, .inr (1, [.ref a85])), (a85, .inl (k85, 6, .inl (fun _ => 0)))]) hP hD [7] [0, 1, 2, 3, 4, 5, 6] rfl rfl (by decide) (by decide) hk1 hFc hP1 hD1
  have hcc : k46 = k85 := k_one hK hK1
  subst hcc
  generalize H1 = H at hP hS ⊢
  have hP : va_P D vwCl [(h0, .inr (0, [.int 0, .int 5, .int 0, .int 0, .int 0, .int 0, .int 0, .ref q40, .ref q53, .ref q66, .null, .null, .null, .null])), (q40, .inr (1, [.ref a46])), (a46, .inl (k46, 8, .inl (fun _ => 0))), (q53, .inr (1, [.ref a59])), (a59, .inl (k46, 8, .inl (fun _ => 0))), (q66, .inr (1, [.ref a72])), (a72, .inl (k46, 6, .inl (fun _ => 0))), (q79, .inr (1, [.ref a85])), (a85, .inl (k46, 6, .inl (fun _ => 0)))] H := hP
  have hD : va_D A [(h0, .inr (0, [.int 0, .int 5, .int 0, .int 0, .int 0, .int 0, .int 0, .ref q40, .ref q53, .ref q66, .null, .null, .null, .null])), (q40, .inr (1, [.ref a46])), (a46, .inl (k46, 8, .inl (fun _ => 0))), (q53, .inr (1, [.ref a59])), (a59, .inl (k46, 8, .inl (fun _ => 0))), (q66, .inr (1, [.ref a72])), (a72, .inl (k46, 6, .inl (fun _ => 0))), (q79, .inr (1, [.ref a85])), (a85, .inl (k46, 6, .inl (fun _ => 0)))] := hD
  have hK : va_K D vwCl [(k46, .int)] s := hK
  refine va_putF (D := D) (ci := 0) (v := .ref q79) (ty := .object RX2) (C := RX0) (T := TX0) (N := 14) hx hb hts in0 tyX0 tyX0_ok nmX0 hown hK hP hD hS 0 rfl rfl 10 (by decide) (hts _ (List.mem_of_getElem? (i := 17) rfl)) (fun _ h9 => h9) rfl hin rfl (by decide +kernel) rfl rfl (Nat.le_of_ble_eq_true rfl) dX0_init_88 (fun H locs hP hD hS => ?_)
  have hP : va_P D vwCl [(h0, .inr (0, [.int 0, .int 5, .int 0, .int 0, .int 0, .int 0, .int 0, .ref q40, .ref q53, .ref q66, .ref q79, .null, .null, .null])), (q40, .inr (1, [.ref a46])), (a46, .inl (k46, 8, .inl (fun _ => 0))), (q53, .inr (1, [.ref a59])), (a59, .inl (k46, 8, .inl (fun _ => 0))), (q66, .inr (1, [.ref a72])), (a72, .inl (k46, 6, .inl (fun _ => 0))), (q79, .inr (1, [.ref a85])), (a85, .inl (k46, 6, .inl (fun _ => 0)))] H := hP
  have hD : va_D A [(h0, .inr (0, [.int 0, .int 5, .int 0, .int 0, .int 0, .int 0, .int 0, .ref q40, .ref q53, .ref q66, .ref q79, .null, .null, .null])), (q40, .inr (1, [.ref a46])), (a46, .inl (k46, 8, .inl (fun _ => 0))), (q53, .inr (1, [.ref a59])), (a59, .inl (k46, 8, .inl (fun _ => 0))), (q66, .inr (1, [.ref a72])), (a72, .inl (k46, 6, .inl (fun _ => 0))), (q79, .inr (1, [.ref a85])), (a85, .inl (k46, 6, .inl (fun _ => 0)))] := hD
  refine lv_aload_n hx hb dX0_init_91 rfl (lv_at hl 0 rfl) ?_
  refine va_new (ci := 1) (fs := [.null]) (C := RX2) (T := TX2) (N := 1) hx hb hts in2 tyX2 tyX2_ok hown (hts _ (List.mem_of_getElem? (i := 11) rfl)) (hts _ (List.mem_of_getElem? (i := 12) rfl)) (hts _ (List.mem_of_getElem? (i := 13) rfl)) hK hP hD hS hA rfl (fun j hj => by rcases (show j = 0 by omega) with rfl <;> rfl) (show 8 + 1 ≤ 14 by decide) (show 32 + 1 ≤ 59 by decide) dX0_init_92 (fun q92 H hP hD hS => ?_)
  have hP : va_P D vwCl [(h0, .inr (0, [.int 0, .int 5, .int 0, .int 0, .int 0, .int 0, .int 0, .ref q40, .ref q53, .ref q66, .ref q79, .null, .null, .null])), (q40, .inr (1, [.ref a46])), (a46, .inl (k46, 8, .inl (fun _ => 0))), (q53, .inr (1, [.ref a59])), (a59, .inl (k46, 8, .inl (fun _ => 0))), (q66, .inr (1, [.ref a72])), (a72, .inl (k46, 6, .inl (fun _ => 0))), (q79, .inr (1, [.ref a85])), (a85, .inl (k46, 6, .inl (fun _ => 0))), (q92, .inr (1, [.null]))] H := hP
  have hD : va_D A [(h0, .inr (0, [.int 0, .int 5, .int 0, .int 0, .int 0, .int 0, .int 0, .ref q40, .ref q53, .ref q66, .ref q79, .null, .null, .null])), (q40, .inr (1, [.ref a46])), (a46, .inl (k46, 8, .inl (fun _ => 0))), (q53, .inr (1, [.ref a59])), (a59, .inl (k46, 8, .inl (fun _ => 0))), (q66, .inr (1, [.ref a72])), (a72, .inl (k46, 6, .inl (fun _ => 0))), (q79, .inr (1, [.ref a85])), (a85, .inl (k46, 6, .inl (fun _ => 0))), (q92, .inr (1, [.null]))] := hD
  refine W.widen (k := 9) (n := 33) (by omega) (by omega) ?_
  refine lv_dup hx hb dX0_init_95 rfl ?_
  refine lv_bipush (v := nI 8) hx hb dX0_init_96 (by decide) ?_
  have hPc := hP.sub (ws' := [(q92, .inr (1, [.null]))]) [9] rfl
  have hDc := hD.sub (ws' := [(q92, .inr (1, [.null]))]) [9] (by decide) rfl
  have hKc := hK.sub (tys' := []) [] rfl
  have hFc := va_free (wc := [(q92, .inr (1, [.null]))]) hD hS hA [9] rfl
  refine va_callv (va_runI (As := [.int (nI 8)]) (rest := [.ref q92, .ref h0]) ⟨hx, hb, hml, hown, hts⟩ (c_X2_init l D q92 H.size 8 (by decide)) (cwI 1 hts gX0_init_X2_init rfl rfl rfl (hts _ (List.mem_of_getElem? (i := 13) rfl)) (hts _ (List.mem_of_getElem? (i := 21) rfl)) (hts _ (List.mem_of_getElem? (i := 22) rfl)) rfl (by decide +kernel) ⟨Nat.le_of_ble_eq_true rfl, Nat.le_of_ble_eq_true rfl⟩) ⟨fun a U g mk q => by obtain ⟨q0, q1, qP, qK, qD⟩ := q; exact ⟨q0, q1, qP, va_K.moved (u := U) (U := U.calling g mk a) (Vm.Alike.refl U.vm) qK, qD⟩, fun U hU hW => ⟨rfl, by rw [hU], by rw [hU]; exact hPc, va_K.moved hW.alike hKc, hDc.weaken (fun _ _ _ _ => trivial)⟩⟩ rfl rfl hl.1 rfl (lv_room (Nat.le_of_ble_eq_true rfl)) dX0_init_98 ⟨(show 9 + 1 ≤ 14 by decide), (show 33 + 8 ≤ 59 by decide)⟩) hS (fun q _ h => hFc q h) hFc (fun u t H1 locs ht hvm h5 hB hz1 hk1 hS => ?_)
  obtain ⟨a98, k98⟩ := u
  obtain ⟨hP1, hK1, hD1⟩ := hB
  rw [ht] at hP1
  have hK1 := va_K.moved hvm.symm hK1
  obtain ⟨hP, hD⟩ := va_join (wr := [(h0, .inr (0, [.int 0, .int 5, .int 0, .int 0, .int 0, .int 0, .int 0, .ref q40, .ref q53, .ref q66, .ref q79, .null, .null, .null])), (q40, .inr (1, [.ref a46])), (a46, .inl (k46, 8, .inl (fun _ => 0))), (q53, .inr (1, [.ref a59])), (a59, .inl (k46, 8, .inl (fun _ => 0))), (q66, .inr (1, [.ref a72])), (a72, .inl (k46, 6, .inl (fun _ => 0))), (q79, .inr (1, [.ref a85])), (a85, .inl (k46, 6, .inl (fun _ => 0)))]) (w1 := [(q92, .inr (1, [.ref a98])), (a98, .inl (k98, 8, .inl (fun _ => 0)))]) hP hD [9] [0, 1, 2, 3, 4, 5, 6, 7, 8] rfl rfl (by decide) (by decide) hk1 hFc hP1 hD1
  have hcc : k46 = k98 := k_one hK hK1
  subst hcc
  generalize H1 = H at hP hS ⊢
  have hP : va_P D vwCl [(h0, .inr (0, [.int 0, .int 5, .int 0, .int 0, .int 0, .int 0, .int 0, .ref q40, .ref q53, .ref q66, .ref q79, .null, .null, .null])), (q40, .inr (1, [.ref a46])), (a46, .inl (k46, 8, .inl (fun _ => 0))), (q53, .inr (1, [.ref a59])), (a59, .inl (k46, 8, .inl (fun _ => 0))), (q66, .inr (1, [.ref a72])), (a72, .inl (k46, 6, .inl (fun _ => 0))), (q79, .inr (1, [.ref a85])), (a85, .inl (k46, 6, .inl (fun _ => 0))), (q92, .inr (1, [.ref a98])), (a98, .inl (k46, 8, .inl (fun _ => 0)))] H := hP
  have hD : va_D A [(h0, .inr (0, [.int 0, .int 5, .int 0, .int 0, .int 0, .int 0, .int 0, .ref q40, .ref q53, .ref q66, .ref q79, .null, .null, .null])), (q40, .inr (1, [.ref a46])), (a46, .inl (k46, 8, .inl (fun _ => 0))), (q53, .inr (1, [.ref a59])), (a59, .inl (k46, 8, .inl (fun _ => 0))), (q66, .inr (1, [.ref a72])), (a72, .inl (k46, 6, .inl (fun _ => 0))), (q79, .inr (1, [.ref a85])), (a85, .inl (k46, 6, .inl (fun _ => 0))), (q92, .inr (1, [.ref a98])), (a98, .inl (k46, 8, .inl (fun _ => 0)))] := hD
  have hK : va_K D vwCl [(k46, .int)] s := hK
  refine va_putF (D := D) (ci := 0) (v := .ref q92) (ty := .object RX2) (C := RX0) (T := TX0) (N := 14) hx hb hts in0 tyX0 tyX0_ok nmX0 hown hK hP hD hS 0 rfl rfl 11 (by decide) (hts _ (List.mem_of_getElem? (i := 18) rfl)) (fun _ h9 => h9) rfl hin rfl (by decide +kernel) rfl rfl (Nat.le_of_ble_eq_true rfl) dX0_init_101 (fun H locs hP hD hS => ?_)
  have hP : va_P D vwCl [(h0, .inr (0, [.int 0, .int 5, .int 0, .int 0, .int 0, .int 0, .int 0, .ref q40, .ref q53, .ref q66, .ref q79, .ref q92, .null, .null])), (q40, .inr (1, [.ref a46])), (a46, .inl (k46, 8, .inl (fun _ => 0))), (q53, .inr (1, [.ref a59])), (a59, .inl (k46, 8, .inl (fun _ => 0))), (q66, .inr (1, [.ref a72])), (a72, .inl (k46, 6, .inl (fun _ => 0))), (q79, .inr (1, [.ref a85])), (a85, .inl (k46, 6, .inl (fun _ => 0))), (q92, .inr (1, [.ref a98])), (a98, .inl (k46, 8, .inl (fun _ => 0)))] H := hP
  have hD : va_D A [(h0, .inr (0, [.int 0, .int 5, .int 0, .int 0, .int 0, .int 0, .int 0, .ref q40, .ref q53, .ref q66, .ref q79, .ref q92, .null, .null])), (q40, .inr (1, [.ref a46])), (a46, .inl (k46, 8, .inl (fun _ => 0))), (q53, .inr (1, [.ref a59])), (a59, .inl (k46, 8, .inl (fun _ => 0))), (q66, .inr (1, [.ref a72])), (a72, .inl (k46, 6, .inl (fun _ => 0))), (q79, .inr (1, [.ref a85])), (a85, .inl (k46, 6, .inl (fun _ => 0))), (q92, .inr (1, [.ref a98])), (a98, .inl (k46, 8, .inl (fun _ => 0)))] := hD
  refine lv_aload_n hx hb dX0_init_104 rfl (lv_at hl 0 rfl) ?_
  refine va_new (ci := 1) (fs := [.null]) (C := RX2) (T := TX2) (N := 1) hx hb hts in2 tyX2 tyX2_ok hown (hts _ (List.mem_of_getElem? (i := 11) rfl)) (hts _ (List.mem_of_getElem? (i := 12) rfl)) (hts _ (List.mem_of_getElem? (i := 13) rfl)) hK hP hD hS hA rfl (fun j hj => by rcases (show j = 0 by omega) with rfl <;> rfl) (show 10 + 1 ≤ 14 by decide) (show 41 + 1 ≤ 59 by decide) dX0_init_105 (fun q105 H hP hD hS => ?_)
  have hP : va_P D vwCl [(h0, .inr (0, [.int 0, .int 5, .int 0, .int 0, .int 0, .int 0, .int 0, .ref q40, .ref q53, .ref q66, .ref q79, .ref q92, .null, .null])), (q40, .inr (1, [.ref a46])), (a46, .inl (k46, 8, .inl (fun _ => 0))), (q53, .inr (1, [.ref a59])), (a59, .inl (k46, 8, .inl (fun _ => 0))), (q66, .inr (1, [.ref a72])), (a72, .inl (k46, 6, .inl (fun _ => 0))), (q79, .inr (1, [.ref a85])), (a85, .inl (k46, 6, .inl (fun _ => 0))), (q92, .inr (1, [.ref a98])), (a98, .inl (k46, 8, .inl (fun _ => 0))), (q105, .inr (1, [.null]))] H := hP
  have hD : va_D A [(h0, .inr (0, [.int 0, .int 5, .int 0, .int 0, .int 0, .int 0, .int 0, .ref q40, .ref q53, .ref q66, .ref q79, .ref q92, .null, .null])), (q40, .inr (1, [.ref a46])), (a46, .inl (k46, 8, .inl (fun _ => 0))), (q53, .inr (1, [.ref a59])), (a59, .inl (k46, 8, .inl (fun _ => 0))), (q66, .inr (1, [.ref a72])), (a72, .inl (k46, 6, .inl (fun _ => 0))), (q79, .inr (1, [.ref a85])), (a85, .inl (k46, 6, .inl (fun _ => 0))), (q92, .inr (1, [.ref a98])), (a98, .inl (k46, 8, .inl (fun _ => 0))), (q105, .inr (1, [.null]))] := hD
  refine W.widen (k := 11) (n := 42) (by omega) (by omega) ?_
  refine lv_dup hx hb dX0_init_108 rfl ?_
  refine lv_bipush (v := nI 8) hx hb dX0_init_109 (by decide) ?_
  have hPc := hP.sub (ws' := [(q105, .inr (1, [.null]))]) [11] rfl
  have hDc := hD.sub (ws' := [(q105, .inr (1, [.null]))]) [11] (by decide) rfl
  have hKc := hK.sub (tys' := []) [] rfl
  have hFc := va_free (wc := [(q105, .inr (1, [.null]))]) hD hS hA [11] rfl
  refine va_callv (va_runI (As := [.int (nI 8)]) (rest := [.ref q105, .ref h0]) ⟨hx, hb, hml, hown, hts⟩ (c_X2_init l D q105 H.size 8 (by decide)) (cwI 1 hts gX0_init_X2_init rfl rfl rfl (hts _ (List.mem_of_getElem? (i := 13) rfl)) (hts _ (List.mem_of_getElem? (i := 21) rfl)) (hts _ (List.mem_of_getElem? (i := 22) rfl)) rfl (by decide +kernel) ⟨Nat.le_of_ble_eq_true rfl, Nat.le_of_ble_eq_true rfl⟩) ⟨fun a U g mk q => by obtain ⟨q0, q1, qP, qK, qD⟩ := q; exact ⟨q0, q1, qP, va_K.moved (u := U) (U := U.calling g mk a) (Vm.Alike.refl U.vm) qK, qD⟩, fun U hU hW => ⟨rfl, by rw [hU], by rw [hU]; exact hPc, va_K.moved hW.alike hKc, hDc.weaken (fun _ _ _ _ => trivial)⟩⟩ rfl rfl hl.1 rfl (lv_room (Nat.le_of_ble_eq_true rfl)) dX0_init_111 ⟨(show 11 + 1 ≤ 14 by decide), (show 42 + 8 ≤ 59 by decide)⟩) hS (fun q _ h => hFc q h) hFc (fun u t H1 locs ht hvm h5 hB hz1 hk1 hS => ?_)
  obtain ⟨a111, k111⟩ := u
  obtain ⟨hP1, hK1, hD1⟩ := hB
  rw [ht] at hP1
  have hK1 := va_K.moved hvm.symm hK1
  obtain ⟨hP, hD⟩ := va_join (wr := [(h0, .inr (0, [.int 0, .int 5, .int 0, .int 0, .int 0, .int 0, .int 0, .ref q40, .ref q53, .ref q66, .ref q79, .ref q92, .null, .null])), (q40, .inr (1, [.ref a46])), (a46, .inl (k46, 8, .inl (fun _ => 0))), (q53, .inr (1, [.ref a59])), (a59, .inl (k46, 8, .inl (fun _ => 0))), (q66, .inr (1, [.ref a72])), (a72, .inl (k46, 6, .inl (fun _ => 0))), (q79, .inr (1, [.ref a85])), (a85, .inl (k46, 6, .inl (fun _ => 0))), (q92, .inr (1, [.ref a98])), (a98, .inl (k46, 8, .inl (fun _ => 0)))]) (w1 := [(q105, .inr (1, [.ref a111])), (a111, .inl (k111, 8, .inl (fun _ => 0)))]) hP hD [11] [0, 1, 2, 3, 4, 5, 6, 7, 8, 9, 10] rfl rfl (by decide) (by decide) hk1 hFc hP1 hD1
  have hcc : k46 = k111 := k_one hK hK1
  subst hcc
  generalize H1 = H at hP hS ⊢
  have hP : va_P D vwCl [(h0, .inr (0, [.int 0, .int 5, .int 0, .int 0, .int 0, .int 0, .int 0, .ref q40, .ref q53, .ref q66, .ref q79, .ref q92, .null, .null])), (q40, .inr (1, [.ref a46])), (a46, .inl (k46, 8, .inl (fun _ => 0))), (q53, .inr (1, [.ref a59])), (a59, .inl (k46, 8, .inl (fun _ => 0))), (q66, .inr (1, [.ref a72])), (a72, .inl (k46, 6, .inl (fun _ => 0))), (q79, .inr (1, [.ref a85])), (a85, .inl (k46, 6, .inl (fun _ => 0))), (q92, .inr (1, [.ref a98])), (a98, .inl (k46, 8, .inl (fun _ => 0))), (q105, .inr (1, [.ref a111])), (a111, .inl (k46, 8, .inl (fun _ => 0)))] H := hP
  have hD : va_D A [(h0, .inr (0, [.int 0, .int 5, .int 0, .int 0, .int 0, .int 0, .int 0, .ref q40, .ref q53, .ref q66, .ref q79, .ref q92, .null, .null])), (q40, .inr (1, [.ref a46])), (a46, .inl (k46, 8, .inl (fun _ => 0))), (q53, .inr (1, [.ref a59])), (a59, .inl (k46, 8, .inl (fun _ => 0))), (q66, .inr (1, [.ref a72])), (a72, .inl (k46, 6, .inl (fun _ => 0))), (q79, .inr (1, [.ref a85])), (a85, .inl (k46, 6, .inl (fun _ => 0))), (q92, .inr (1, [.ref a98])), (a98, .inl (k46, 8, .inl (fun _ => 0))), (q105, .inr (1, [.ref a111])), (a111, .inl (k46, 8, .inl (fun _ => 0)))] := hD
  have hK : va_K D vwCl [(k46, .int)] s := hK
  refine va_putF (D := D) (ci := 0) (v := .ref q105) (ty := .object RX2) (C := RX0) (T := TX0) (N := 14) hx hb hts in0 tyX0 tyX0_ok nmX0 hown hK hP hD hS 0 rfl rfl 12 (by decide) (hts _ (List.mem_of_getElem? (i := 19) rfl)) (fun _ h9 => h9) rfl hin rfl (by decide +kernel) rfl rfl (Nat.le_of_ble_eq_true rfl) dX0_init_114 (fun H locs hP hD hS => ?_)
  have hP : va_P D vwCl [(h0, .inr (0, [.int 0, .int 5, .int 0, .int 0, .int 0, .int 0, .int 0, .ref q40, .ref q53, .ref q66, .ref q79, .ref q92, .ref q105, .null])), (q40, .inr (1, [.ref a46])), (a46, .inl (k46, 8, .inl (fun _ => 0))), (q53, .inr (1, [.ref a59])), (a59, .inl (k46, 8, .inl (fun _ => 0))), (q66, .inr (1, [.ref a72])), (a72, .inl (k46, 6, .inl (fun _ => 0))), (q79, .inr (1, [.ref a85])), (a85, .inl (k46, 6, .inl (fun _ => 0))), (q92, .inr (1, [.ref a98])), (a98, .inl (k46, 8, .inl (fun _ => 0))), (q105, .inr (1, [.ref a111])), (a111, .inl (k46, 8, .inl (fun _ => 0)))] H := hP
  have hD : va_D A [(h0, .inr (0, [.int 0, .int 5, .int 0, .int 0, .int 0, .int 0, .int 0, .ref q40, .ref q53, .ref q66, .ref q79, .ref q92, .ref q105, .null])), (q40, .inr (1, [.ref a46])), (a46, .inl (k46, 8, .inl (fun _ => 0))), (q53, .inr (1, [.ref a59])), (a59, .inl (k46, 8, .inl (fun _ => 0))), (q66, .inr (1, [.ref a72])), (a72, .inl (k46, 6, .inl (fun _ => 0))), (q79, .inr (1, [.ref a85])), (a85, .inl (k46, 6, .inl (fun _ => 0))), (q92, .inr (1, [.ref a98])), (a98, .inl (k46, 8, .inl (fun _ => 0))), (q105, .inr (1, [.ref a111])), (a111, .inl (k46, 8, .inl (fun _ => 0)))] := hD
  refine lv_aload_n hx hb dX0_init_117 rfl (lv_at hl 0 rfl) ?_
  refine va_new (ci := 1) (fs := [.null]) (C := RX2) (T := TX2) (N := 1) hx hb hts in2 tyX2 tyX2_ok hown (hts _ (List.mem_of_getElem? (i := 11) rfl)) (hts _ (List.mem_of_getElem? (i := 12) rfl)) (hts _ (List.mem_of_getElem? (i := 13) rfl)) hK hP hD hS hA rfl (fun j hj => by rcases (show j = 0 by omega) with rfl <;> rfl) (show 12 + 1 ≤ 14 by decide) (show 50 + 1 ≤ 59 by decide) dX0_init_118 (fun q118 H hP hD hS => ?_)
  have hP : va_P D vwCl [(h0, .inr (0, [.int 0, .int 5, .int 0, .int 0, .int 0, .int 0, .int 0, .ref q40, .ref q53, .ref q66, .ref q79, .ref q92, .ref q105, .null])), (q40, .inr (1, [.ref a46])), (a46, .inl (k46, 8, .inl (fun _ => 0))), (q53, .inr (1, [.ref a59])), (a59, .inl (k46, 8, .inl (fun _ => 0))), (q66, .inr (1, [.ref a72])), (a72, .inl (k46, 6, .inl (fun _ => 0))), (q79, .inr (1, [.ref a85])), (a85, .inl (k46, 6, .inl (fun _ => 0))), (q92, .inr (1, [.ref a98])), (a98, .inl (k46, 8, .inl (fun _ => 0))), (q105, .inr (1, [.ref a111])), (a111, .inl (k46, 8, .inl (fun _ => 0))), (q118, .inr (1, [.null]))] H := hP
  have hD : va_D A [(h0, .inr (0, [.int 0, .int 5, .int 0, .int 0, .int 0, .int 0, .int 0, .ref q40, .ref q53, .ref q66, .ref q79, .ref q92, .ref q105, .null])), (q40, .inr (1, [.ref a46])), (a46, .inl (k46, 8, .inl (fun _ => 0))), (q53, .inr (1, [.ref a59])), (a59, .inl (k46, 8, .inl (fun _ => 0))), (q66, .inr (1, [.ref a72])), (a72, .inl (k46, 6, .inl (fun _ => 0))), (q79, .inr (1, [.ref a85])), (a85, .inl (k46, 6, .inl (fun _ => 0))), (q92, .inr (1, [.ref a98])), (a98, .inl (k46, 8, .inl (fun _ => 0))), (q105, .inr (1, [.ref a111])), (a111, .inl (k46, 8, .inl (fun _ => 0))), (q118, .inr (1, [.null]))] := hD
  refine W.widen (k := 13) (n := 51) (by omega) (by omega) ?_
  refine lv_dup hx hb dX0_init_121 rfl ?_
  refine lv_bipush (v := nI 8) hx hb dX0_init_122 (by decide) ?_
  have hPc := hP.sub (ws' := [(q118, .inr (1, [.null]))]) [13] rfl
  have hDc := hD.sub (ws' := [(q118, .inr (1, [.null]))]) [13] (by decide) rfl
  have hKc := hK.sub (tys' := []) [] rfl
  have hFc := va_free (wc := [(q118, .inr (1, [.null]))]) hD hS hA [13] rfl
  refine va_callv (va_runI (As := [.int (nI 8)]) (rest := [.ref q118, .ref h0]) ⟨hx, hb, hml, hown, hts⟩ (c_X2_init l D q118 H.size 8 (by decide)) (cwI 1 hts gX0_init_X2_init rfl rfl rfl (hts _ (List.mem_of_getElem? (i := 13) rfl)) (hts _ (List.mem_of_getElem? (i := 21) rfl)) (hts _ (List.mem_of_getElem? (i := 22) rfl)) rfl (by decide +kernel) ⟨Nat.le_of_ble_eq_true rfl, Nat.le_of_ble_eq_true rfl⟩) ⟨fun a U g mk q => by obtain ⟨q0, q1, qP, qK, qD⟩ := q; exact ⟨q0, q1, qP, va_K.moved (u := U) (U := U.calling g mk a) (Vm.Alike.refl U.vm) qK, qD⟩, fun U hU hW => ⟨rfl, by rw [hU], by rw [hU]; exact hPc, va_K.moved hW.alike hKc, hDc.weaken (fun _ _ _ _ => trivial)⟩⟩ rfl rfl hl.1 rfl (lv_room (Nat.le_of_ble_eq_true rfl)) dX0_init_124 ⟨(show 13 + 1 ≤ 14 by decide), (show 51 + 8 ≤ 59 by decide)⟩) hS (fun q _ h => hFc q h) hFc (fun u t H1 locs ht hvm h5 hB hz1 hk1 hS => ?_)
  obtain ⟨a124, k124⟩ := u
  obtain ⟨hP1, hK1, hD1⟩ := hB
  rw [ht] at hP1
  have hK1 := va_K.moved hvm.symm hK1
  obtain ⟨hP, hD⟩ := va_join (wr := [(h0, .inr (0, [.int 0, .int 5, .int 0, .int 0, .int 0, .int 0, .int 0, .ref q40, .ref q53, .ref q66, .ref q79, .ref q92, .ref q105, .null])), (q40, .inr (1, [.ref a46])), (a46, .inl (k46, 8, .inl (fun _ => 0))), (q53, .inr (1, [.ref a59])), (a59, .inl (k46, 8, .inl (fun _ => 0))), (q66, .inr (1, [.ref a72])), (a72, .inl (k46, 6, .inl (fun _ => 0))), (q79, .inr (1, [.ref a85])), (a85, .inl (k46, 6, .inl (fun _ => 0))), (q92, .inr (1, [.ref a98])), (a98, .inl (k46, 8, .inl (fun _ => 0))), (q105, .inr (1, [.ref a111])), (a111, .inl (k46, 8, .inl (fun _ => 0)))]) (w1 := [(q118, .inr (1, [.ref a124])), (a124, .inl (k124, 8, .inl (fun _ => 0)))]) hP hD [13] [0, 1, 2, 3, 4, 5, 6, 7, 8, 9, 10, 11, 12] rfl rfl (by decide) (by decide) hk1 hFc hP1 hD1
  have hcc : k46 = k124 := k_one hK hK1
  subst hcc
  generalize H1 = H at hP hS ⊢
  have hP : va_P D vwCl [(h0, .inr (0, [.int 0, .int 5, .int 0, .int 0, .int 0, .int 0, .int 0, .ref q40, .ref q53, .ref q66, .ref q79, .ref q92, .ref q105, .null])), (q40, .inr (1, [.ref a46])), (a46, .inl (k46, 8, .inl (fun _ => 0))), (q53, .inr (1, [.ref a59])), (a59, .inl (k46, 8, .inl (fun _ => 0))), (q66, .inr (1, [.ref a72])), (a72, .inl (k46, 6, .inl (fun _ => 0))), (q79, .inr (1, [.ref a85])), (a85, .inl (k46, 6, .inl (fun _ => 0))), (q92, .inr (1, [.ref a98])), (a98, .inl (k46, 8, .inl (fun _ => 0))), (q105, .inr (1, [.ref a111])), (a111, .inl (k46, 8, .inl (fun _ => 0))), (q118, .inr (1, [.ref a124])), (a124, .inl (k46, 8, .inl (fun _ => 0)))] H := hP
  have hD : va_D A [(h0, .inr (0, [.int 0, .int 5, .int 0, .int 0, .int 0, .int 0, .int 0, .ref q40, .ref q53, .ref q66, .ref q79, .ref q92, .ref q105, .null])), (q40, .inr (1, [.ref a46])), (a46, .inl (k46, 8, .inl (fun _ => 0))), (q53, .inr (1, [.ref a59])), (a59, .inl (k46, 8, .inl (fun _ => 0))), (q66, .inr (1, [.ref a72])), (a72, .inl (k46, 6, .inl (fun _ => 0))), (q79, .inr (1, [.ref a85])), (a85, .inl (k46, 6, .inl (fun _ => 0))), (q92, .inr (1, [.ref a98])), (a98, .inl (k46, 8, .inl (fun _ => 0))), (q105, .inr (1, [.ref a111])), (a111, .inl (k46, 8, .inl (fun _ => 0))), (q118, .inr (1, [.ref a124])), (a124, .inl (k46, 8, .inl (fun _ => 0)))] := hD
  have hK : va_K D vwCl [(k46, .int)] s := hK
  refine va_putF (D := D) (ci := 0) (v := .ref q118) (ty := .object RX2) (C := RX0) (T := TX0) (N := 14) hx hb hts in0 tyX0 tyX0_ok nmX0 hown hK hP hD hS 0 rfl rfl 13 (by decide) (hts _ (List.mem_of_getElem? (i := 20) rfl)) (fun _ h9 => h9) rfl hin rfl (by decide +kernel) rfl rfl (Nat.le_of_ble_eq_true rfl) dX0_init_127 (fun H locs hP hD hS => ?_)
  have hP : va_P D vwCl [(h0, .inr (0, [.int 0, .int 5, .int 0, .int 0, .int 0, .int 0, .int 0, .ref q40, .ref q53, .ref q66, .ref q79, .ref q92, .ref q105, .ref q118])), (q40, .inr (1, [.ref a46])), (a46, .inl (k46, 8, .inl (fun _ => 0))), (q53, .inr (1, [.ref a59])), (a59, .inl (k46, 8, .inl (fun _ => 0))), (q66, .inr (1, [.ref a72])), (a72, .inl (k46, 6, .inl (fun _ => 0))), (q79, .inr (1, [.ref a85])), (a85, .inl (k46, 6, .inl (fun _ => 0))), (q92, .inr (1, [.ref a98])), (a98, .inl (k46, 8, .inl (fun _ => 0))), (q105, .inr (1, [.ref a111])), (a111, .inl (k46, 8, .inl (fun _ => 0))), (q118, .inr (1, [.ref a124])), (a124, .inl (k46, 8, .inl (fun _ => 0)))] H := hP
  have hD : va_D A [(h0, .inr (0, [.int 0, .int 5, .int 0, .int 0, .int 0, .int 0, .int 0, .ref q40, .ref q53, .ref q66, .ref q79, .ref q92, .ref q105, .ref q118])), (q40, .inr (1, [.ref a46])), (a46, .inl (k46, 8, .inl (fun _ => 0))), (q53, .inr (1, [.ref a59])), (a59, .inl (k46, 8, .inl (fun _ => 0))), (q66, .inr (1, [.ref a72])), (a72, .inl (k46, 6, .inl (fun _ => 0))), (q79, .inr (1, [.ref a85])), (a85, .inl (k46, 6, .inl (fun _ => 0))), (q92, .inr (1, [.ref a98])), (a98, .inl (k46, 8, .inl (fun _ => 0))), (q105, .inr (1, [.ref a111])), (a111, .inl (k46, 8, .inl (fun _ => 0))), (q118, .inr (1, [.ref a124])), (a124, .inl (k46, 8, .inl (fun _ => 0)))] := hD
  refine W.widen (k := 14) (n := 59) (by omega) (by omega) ?_
  exact W.vret hx hb hr (fun t ht hW => ⟨⟨(fun k => [h0, q40, a46, q53, a59, q66, a72, q79, a85, q92, a98, q105, a111, q118, a124].getD k 0, k46), rfl, trivial, by rw [ht]; exact hP, va_K.moved hW.alike hK, hD⟩, hS.F ht⟩) hS.2.2 dX0_init_130
