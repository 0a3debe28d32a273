/-! the law, from its entry -/
abbrev AS (s : State) : Nat → Prop := fun q : Nat => s.heap.size ≤ q
def tmS (i : Nat) : Term := if i = 0 then .string RX3 52 else .string RX3 70
set_option maxHeartbeats 4000000 in
set_option maxRecDepth 100000 in
/-- what the tables and the start give -/
theorem lz_known {p : Program} {s : State} {m : MethodId} {meth : Method} {c : Code} {b L : Nat} {xs : Nat → Int32} (C0 : lw_At p s m meth c b L xs) : ∃ (D : va_G) (aK aV : Nat → Nat), va_K D vwCl [] s ∧ (vk_R RX3 52 "flight" (aK 0) s ∧ vk_R RX3 70 "lock" (aK 1) s) ∧ vk_S 2 [6, 4] [[102, 108, 105, 103, 104, 116], [108, 111, 99, 107]] aK aV (AS s) s s.heap ∧ va_Z "java/lang/String" "COMPACT_STRINGS" "Z" (.int 1) (AS s) s s.heap ∧ va_Zq "jdk/internal/util/Preconditions" "SIOOBE_FORMATTER" "Ljava/util/function/BiFunction;" (AS s) s s.heap := by
  obtain ⟨hx, hb, hr, hml, hown, hts, hX, hbl, hlocks, hgv⟩ := C0
  have hs := flat_of_before _ hgv
  have hA : ∀ a : Nat, a < s.heap.size → ¬ AS s a := fun a h => Nat.not_le.mpr h
  obtain ⟨c0, i0, hk0⟩ := u_known (C := RX0) (T := TX0) (N := 14) (n := 14) hts inw_0 (hts _ tb_0)
  obtain ⟨c1, i1, hk1⟩ := u_known (C := RX2) (T := TX2) (N := 1) (n := 1) hts inw_2 (hts _ tb_1)
  obtain ⟨c2, i2, hk2⟩ := u_known (C := RX3) (T := TX3) (N := 5) (n := 5) hts inw_3 (hts _ tb_2)
  obtain ⟨c3, i3, hk3⟩ := u_known (C := RX4) (T := TX4) (N := 14) (n := 14) hts inw_4 (hts _ tb_3)
  obtain ⟨c4, i4, hk4⟩ := u_known (C := RX5) (T := TX5) (N := 13) (n := 13) hts inw_5 (hts _ tb_4)
  obtain ⟨c5, i5, hk5⟩ := u_known (C := RX6) (T := TX6) (N := 22) (n := 22) hts inw_6 (hts _ tb_5)
  have tc : ∀ i : Nat, i < 2 → i = 0 ∨ i = 1 := fun i h => by omega
  obtain ⟨aK, aV, hVS, hVE⟩ := vk_Sof (args := #[Value.ref b]) (s := s) (N := 2) (tm := tmS) (len := [6, 4]) (byt := [[102, 108, 105, 103, 104, 116], [108, 111, 99, 107]]) (A := AS s)
    (fun i hi => by rcases tc i hi with rfl | rfl <;> decide)
    (fun i hi => by rcases tc i hi with rfl | rfl <;> exact hs _ (by decide +kernel))
    (fun i hi => by rcases tc i hi with rfl | rfl <;> exact hs _ (by decide +kernel))
    (fun i hi => by rcases tc i hi with rfl | rfl <;> exact hs _ (by decide +kernel))
    (fun i hi => by rcases tc i hi with rfl | rfl <;> exact hs _ (by decide +kernel))
    (fun i hi j hj => by
      rcases tc i hi with rfl | rfl
      · have hj : j < 6 := hj
        rcases (show j = 0 ∨ j = 1 ∨ j = 2 ∨ j = 3 ∨ j = 4 ∨ j = 5 by omega) with rfl | rfl | rfl | rfl | rfl | rfl <;> exact hs _ (by decide +kernel)
      · have hj : j < 4 := hj
        rcases (show j = 0 ∨ j = 1 ∨ j = 2 ∨ j = 3 by omega) with rfl | rfl | rfl | rfl <;> exact hs _ (by decide +kernel))
    (fun i j hi hj hn => by
      rcases tc i hi with rfl | rfl <;> rcases tc j hj with rfl | rfl
      · exact absurd rfl hn
      · exact Or.inl (hs _ (by decide +kernel))
      · exact Or.inr (hs _ (by decide +kernel))
      · exact absurd rfl hn) hA
  refine ⟨(fun k => [c0, c1, c2, c3, c4, c5].getD k c0, fun k => [i0, i1, i2, i3, i4, i5].getD k i0), aK, aV, ⟨?_, fun k q h => by simp at h⟩, ⟨vk_R.of (hts _ tb_10) (hVE 0 (by decide)), vk_R.of (hts _ tb_11) (hVE 1 (by decide))⟩, hVS, va_Zof (hts _ tb_6) (hts _ tb_7) (va_eqi (hs _ (by decide +kernel))) hA, va_Zqof (hts _ tb_8) (hts _ tb_9) (hs _ (by decide +kernel)) hA⟩
  intro k q hq
  match k, hq with
  | 0, hq => cases hq; exact hk0
  | 1, hq => cases hq; exact hk1
  | 2, hq => cases hq; exact hk2
  | 3, hq => cases hq; exact hk3
  | 4, hq => cases hq; exact hk4
  | 5, hq => cases hq; exact hk5
  | k + 6, hq => simp [vwCl] at hq
set_option maxHeartbeats 4000000 in
set_option maxRecDepth 100000 in
theorem whole_start {p : Program} {e : Env} {s : State} {m : MethodId} {below : List Frame} {meth : Method} {c : Code} (l : Launch) (hflags : l.flags = flags0) {b L : Nat} {xs : Nat → Int32} (hL : L ≤ 3584) (C0 : lw_At p s m meth c b L xs) : W p l e room_1 s m #[Value.ref b] below meth c s.heap [] 0 0 (lw_Z below #[Value.ref b] s) (entryFrame m ([Value.ref b] : List Value).toArray 4) := by
  obtain ⟨D, aK, aV, hK, hVR, hVS, hZ, hZq⟩ := lz_known C0
  obtain ⟨hx, hb, hr, hml, hown, hts0, hX, hbl, hlocks, hgv⟩ := id C0
  have hts : ∀ w ∈ wsL_law, w.before #[Value.ref b] s = true := fun w h => hts0 w (wsL_law_in w h)
  have nw0 : va_Nw (.methodLinkNest RX5 9 yX0_init RX5) s := va_Nw.of rfl (hts0 _ tb_12)
  have nw4 : va_Nw (.methodLinkNest RX5 27 yX4_init RX5) s := va_Nw.of rfl (hts0 _ tb_13)
  have nw3 : va_Nw (.methodLinkNest RX5 34 yX3_init RX5) s := va_Nw.of rfl (hts0 _ tb_14)
  have nx0 : va_Nw (.methodLinkNest RX0 64 yX5_within RX5) s := va_Nw.of rfl (hts0 _ tb_15)
  have nx3 : va_Nw (.methodLinkNest RX3 58 yX5_within RX5) s := va_Nw.of rfl (hts0 _ tb_16)
  have nx4 : va_Nw (.methodLinkNest RX4 120 yX5_halfCutUp RX5) s := va_Nw.of rfl (hts0 _ tb_17)
  have hA : ∀ q : Nat, s.heap.size ≤ q → AS s q := fun _ h => h
  have hS : va_S (AS s) s.heap s.heap [] := va_S.rf
  have hP : va_P D vwCl [] s.heap := fun k q h => by simp at h
  have hD : va_D (AS s) [] := ⟨fun i j p q h => by simp at h, fun k q h => by simp at h⟩
  have hl := lv_entry ([.ref b]) (n := 4) (Nat.le_of_ble_eq_true rfl)
  rw [lg_entry_eq]
  generalize (lg_sl ([.ref b]) ++ List.replicate (4 - (lg_sl ([.ref b])).length) Slot.unset).toArray = ls at hl ⊢
  have hl : lv_has ls 4 [(0, .ref b)] := hl
  have hown : s.vm.findClass RL = some m.cls := hown
  have hb : c.code = cL_law := hb
  refine va_new (ci := 4) (fs := [.null, .null, .null, .null, .null, .null, .int 0, .int 0, .long 0, .long 0, .int 0, .int 0, .int 0]) (C := RX5) (T := TX5) (N := 13) hx hb hts inlX5 tyX5 tyX5_ok hown (hts (.classLink RL 7 RX5) (List.mem_of_getElem? (i := 0) rfl)) (hts (.instantiable RX5 13) (List.mem_of_getElem? (i := 1) rfl)) (hts (.initialized RX5) (List.mem_of_getElem? (i := 2) rfl)) hK hP hD hS hA rfl (by decide) (Nat.le_of_ble_eq_true rfl) (Nat.le_of_ble_eq_true rfl) dL_law_0 (fun q0 H hP hD hS => ?_)
  have hP : va_P D vwCl [(q0, .inr (4, [.null, .null, .null, .null, .null, .null, .int 0, .int 0, .long 0, .long 0, .int 0, .int 0, .int 0]))] H := hP
  have hD : va_D (AS s) [(q0, .inr (4, [.null, .null, .null, .null, .null, .null, .int 0, .int 0, .long 0, .long 0, .int 0, .int 0, .int 0]))] := hD
  refine W.widen (k := 1) (n := 13) (by omega) (by omega) ?_
  refine lv_dup hx hb dL_law_3 rfl ?_
  have hPc := hP.sub (ws' := [(q0, .inr (4, [.null, .null, .null, .null, .null, .null, .int 0, .int 0, .long 0, .long 0, .int 0, .int 0, .int 0]))]) [0] rfl
  have hDc := hD.sub (ws' := [(q0, .inr (4, [.null, .null, .null, .null, .null, .null, .int 0, .int 0, .long 0, .long 0, .int 0, .int 0, .int 0]))]) [0] (by decide) rfl
  have hFc := va_free (wc := [(q0, .inr (4, [.null, .null, .null, .null, .null, .null, .int 0, .int 0, .long 0, .long 0, .int 0, .int 0, .int 0]))]) hD hS hA [0] rfl
  refine va_callv (va_runI (As := []) (rest := [.ref q0]) ⟨hx, hb, hml, hown, hts⟩ (c_X5_init l D q0 H.size) (cwI 0 hts gL_law_X5_init rfl rfl rfl (hts (.initialized RX5) (List.mem_of_getElem? (i := 2) rfl)) (hts (.methodLink RL 9 yX5_init) (List.mem_of_getElem? (i := 6) rfl)) (hts (.instanceMethod yX5_init) (List.mem_of_getElem? (i := 7) rfl)) rfl (by decide +kernel) ⟨Nat.le_of_ble_eq_true rfl, Nat.le_of_ble_eq_true rfl⟩) ⟨fun a U g mk q => by obtain ⟨g0, g1, qP, qK, qD, n0, n1, n2⟩ := q; exact ⟨g0, g1, qP, va_K.moved (u := U) (U := U.calling g mk a) (Vm.Alike.refl U.vm) qK, qD, va_Nw.same (U := U.calling g mk a) rfl rfl n0, va_Nw.same (U := U.calling g mk a) rfl rfl n1, va_Nw.same (U := U.calling g mk a) rfl rfl n2⟩, fun U hU hW => ⟨rfl, by rw [hU], by rw [hU]; exact hPc, va_K.moved hW.alike hK, hDc.weaken (fun _ _ _ _ => trivial), va_Nw.warmM hW nw0, va_Nw.warmM hW nw4, va_Nw.warmM hW nw3⟩⟩ rfl rfl hl.1 rfl (lv_room (Nat.le_of_ble_eq_true rfl)) dL_law_4 ⟨Nat.le_of_ble_eq_true rfl, Nat.le_of_ble_eq_true rfl⟩) hS (fun q _ h => hFc q h) hFc (fun u t H1 locs ht hvm h5 hB hz1 hk1 hS => ?_)
  obtain ⟨ua, kI⟩ := u
  obtain ⟨hP1, hK1, hD1⟩ := hB
  rw [ht] at hP1
  have hK1 : va_K D vwCl [(kI, .int)] s := va_K.moved hvm.symm hK1
  obtain ⟨hP, hD⟩ := va_join (wr := []) (w1 := flLF q0 (ua, kI)) hP hD [0] [] rfl rfl (by decide) (by decide) hk1 hFc hP1 hD1
  generalize H1 = H at hP hS ⊢
  have hP : va_P D vwCl (flLF q0 (ua, kI)) H := hP
  have hD : va_D (AS s) (flLF q0 (ua, kI)) := hD
  refine W.widen (k := 75) (n := 520) (by omega) (by omega) ?_
  refine lv_astore_n (lv' := [(1, .ref q0), (0, .ref b)]) hx hb dL_law_7 rfl hl (by decide) rfl (fun ls hl => ?_)
  refine va_new (ci := 5) (fs := [.null, .null, .null, .null, .long 0, .long 0, .null, .null, .null, .null, .null, .null, .int 0, .int 0, .null, .int 0, .int 0, .int 0, .int 0, .int 0, .null, .null]) (C := RX6) (T := TX6) (N := 22) hx hb hts inlX6 tyX6 tyX6_ok hown (hts (.classLink RL 10 RX6) (List.mem_of_getElem? (i := 3) rfl)) (hts (.instantiable RX6 22) (List.mem_of_getElem? (i := 4) rfl)) (hts (.initialized RX6) (List.mem_of_getElem? (i := 5) rfl)) hK hP hD hS hA rfl (by decide) (Nat.le_of_ble_eq_true rfl) (Nat.le_of_ble_eq_true rfl) dL_law_8 (fun q1 H hP hD hS => ?_)
  refine W.widen (k := 76) (n := 542) (by omega) (by omega) ?_
  refine lv_dup hx hb dL_law_11 rfl ?_
  have hPc := hP.sub (ws' := [(q1, .inr (5, [.null, .null, .null, .null, .long 0, .long 0, .null, .null, .null, .null, .null, .null, .int 0, .int 0, .null, .int 0, .int 0, .int 0, .int 0, .int 0, .null, .null]))]) [75] rfl
  have hDc := hD.sub (ws' := [(q1, .inr (5, [.null, .null, .null, .null, .long 0, .long 0, .null, .null, .null, .null, .null, .null, .int 0, .int 0, .null, .int 0, .int 0, .int 0, .int 0, .int 0, .null, .null]))]) [75] (by decide) rfl
  have hFc := va_free (wc := [(q1, .inr (5, [.null, .null, .null, .null, .long 0, .long 0, .null, .null, .null, .null, .null, .null, .int 0, .int 0, .null, .int 0, .int 0, .int 0, .int 0, .int 0, .null, .null]))]) hD hS hA [75] rfl
  refine va_callv (va_runI (As := []) (rest := [.ref q1]) ⟨hx, hb, hml, hown, hts⟩ (c_X6_init l D q1 H.size) (cwI 0 hts gL_law_X6_init rfl rfl rfl (hts (.initialized RX6) (List.mem_of_getElem? (i := 5) rfl)) (hts (.methodLink RL 12 yX6_init) (List.mem_of_getElem? (i := 93) rfl)) (hts (.instanceMethod yX6_init) (List.mem_of_getElem? (i := 94) rfl)) rfl (by decide +kernel) ⟨Nat.le_of_ble_eq_true rfl, Nat.le_of_ble_eq_true rfl⟩) ⟨fun a U g mk q => by obtain ⟨g0, g1, qP, qK, qD⟩ := q; exact ⟨g0, g1, qP, va_K.moved (u := U) (U := U.calling g mk a) (Vm.Alike.refl U.vm) qK, qD⟩, fun U hU hW => ⟨rfl, by rw [hU], by rw [hU]; exact hPc, va_K.moved hW.alike hK, hDc.weaken (fun _ _ _ _ => trivial)⟩⟩ rfl rfl hl.1 rfl (lv_room (Nat.le_of_ble_eq_true rfl)) dL_law_12 ⟨Nat.le_of_ble_eq_true rfl, Nat.le_of_ble_eq_true rfl⟩) hS (fun q _ h => hFc q h) hFc (fun u t H1 locs ht hvm h5 hB hz1 hk1 hS => ?_)
  obtain ⟨va, kI2, kZ⟩ := u
  obtain ⟨hP1, hK2, hD1⟩ := hB
  rw [ht] at hP1
  have hK2 : va_K D vwCl [(kI2, .int), (kZ, .boolean)] s := va_K.moved hvm.symm hK2
  have hcc : kI = kI2 := k_one hK1 (hK2.sub [0] rfl)
  subst hcc
  obtain ⟨hP, hD⟩ := va_join (wr := flLF q0 (ua, kI)) (w1 := flRM q1 (va, kI, kZ)) hP hD [75] [0, 1, 2, 3, 4, 5, 6, 7, 8, 9, 10, 11, 12, 13, 14, 15, 16, 17, 18, 19, 20, 21, 22, 23, 24, 25, 26, 27, 28, 29, 30, 31, 32, 33, 34, 35, 36, 37, 38, 39, 40, 41, 42, 43, 44, 45, 46, 47, 48, 49, 50, 51, 52, 53, 54, 55, 56, 57, 58, 59, 60, 61, 62, 63, 64, 65, 66, 67, 68, 69, 70, 71, 72, 73, 74] rfl rfl (by decide) (by decide) hk1 hFc hP1 hD1
  generalize H1 = H at hP hS ⊢
  refine W.widen (k := 89) (n := 1156) (by omega) (by omega) ?_
  refine lv_astore_n (lv' := [(2, .ref q1), (1, .ref q0), (0, .ref b)]) hx hb dL_law_15 rfl hl (by decide) rfl (fun ls hl => ?_)
  refine lv_iconst (v := 0) hx hb dL_law_16 (by decide) ?_
  refine lv_istore_n (lv' := [(3, .int 0), (2, .ref q1), (1, .ref q0), (0, .ref b)]) hx hb dL_law_17 rfl hl (by decide) rfl (fun ls hl => ?_)
  rw [← wl_F D q0 q1 ua va kI kZ aK aV] at hP hD
  obtain ⟨G, hG⟩ : ∃ G : GG, G = gF D q0 q1 ua va kI kZ aK aV := ⟨_, rfl⟩
  rw [← hG] at hP hD
  have hG1 : G.2.1 0 = q0 := by rw [hG]; rfl
  have hG2 : G.2.1 75 = q1 := by rw [hG]; rfl
  have hG3 : G.1 = D := by rw [hG]; rfl
  have hG4 : G.2.2.2.2.1 = aK := by rw [hG]; rfl
  have hG5 : G.2.2.2.2.2 = aV := by rw [hG]; rfl
  have hKp : Kp G s := by rw [hG]; exact ⟨hK2, nx0, nx3, nx4, hVR.1, hVR.2⟩
  clear hG
  have hAs : ∀ q, AA G q → AS s q := fun q h => by
    obtain ⟨k, hk, rfl⟩ := h
    exact hD.2 k _ (iw_at hk)
  have hIj : Ij G := fun i j hi hj e => hD.1 i j _ _ (iw_at hi) (iw_at hj) e
  have hZp : Zp G s s.heap := ⟨by rw [hG4, hG5]; exact hVS.narrow hAs, hZ.narrow hAs, hZq.narrow hAs⟩
  have hLX : LzX p s m meth c G b L xs := ⟨⟨hx, hb, hr, hml, hown, hts, hlocks, hIj, hKp, hZp⟩, hX, hbl, fun h => absurd (hAs b h) (Nat.not_le.mpr hbl)⟩
  have hRp : Rp G sF H := by
    show va_P G.1 vwCl (wl G sF) H
    rw [hG3]
    exact hP
  have hlf : lv_has ls 4 [(0, .ref b), (1, .ref (G.2.1 0)), (2, .ref (G.2.1 75)), (3, .int 0)] := by
    rw [hG1, hG2]
    exact lv_sub hl [3, 2, 1, 0] rfl
  refine va_forget (fun q hq => hS.2.2 q hq) ?_
  exact lz_loop hL hLX hAs (L + 1) 0 0 sF (by omega) (by omega) nI_0.symm JJ_F H [] ls hRp ⟨hS.1, fun q h1 h2 => hS.2.1 q h1 (Nat.not_le.mpr h1), fun _ h => by cases h⟩ hlf
