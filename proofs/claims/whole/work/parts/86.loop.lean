/-! the law's loop -/
theorem lz_len {L i : Nat} (hL : L ≤ 3584) (hi : i ≤ 3584) : (nI L - nI 7 < nI i ↔ L < i + 7) := by
  rw [Int32.lt_iff_toInt_lt, pk_sub_toInt (by omega) (by omega), nI_toInt (by omega)]
  omega
set_option maxHeartbeats 4000000 in
set_option maxRecDepth 100000 in
theorem lz_switch {p : Program} {l : Launch} {e : Env} {s : State} {m : MethodId} {below : List Frame} {meth : Method} {c : Code} {G : GG} {b L : Nat} {xs : Nat → Int32} (X : LzX p s m meth c G b L xs) {x : Int32} (hin : ∀ j, j ≤ 6 → vp_in (x + nI j) L) {σ : St} (hJ : JJ σ) (kk : ∀ υ, JJ υ → LzW p l e s m below meth c G b 1242 x υ) {H : Heap} {locs : List Loc} {ls : Array Slot} (hR : Rp G σ H) (hS : va_S (AA G) s.heap H locs) (hl : lv_has ls 4 [(0, .ref b), (1, .ref (G.2.1 0)), (2, .ref (G.2.1 75)), (3, .int x)]) : ∀ (j : Nat), j < 32 → W p l e room_1 s m #[Value.ref b] below meth c H locs 89 1156 (lw_Z below #[Value.ref b] s) (F0 m 33 ls [.int (nI j)])
  | 0, _ => x_tbl (tgt := 168) (off := 135) X.1.1 X.1.2.1 (k := nI 0) rfl dL_law_33 (by decide) (by decide) (by decide) (by decide) (lz_flight X hin hJ kk _ _ _ hR hS hl)
  | 1, _ => x_tbl (tgt := 191) (off := 158) X.1.1 X.1.2.1 (k := nI 1) rfl dL_law_33 (by decide) (by decide) (by decide) (by decide) (lz_lock X hin hJ kk _ _ _ hR hS hl)
  | 2, _ => x_tbl (tgt := 234) (off := 201) X.1.1 X.1.2.1 (k := nI 2) rfl dL_law_33 (by decide) (by decide) (by decide) (by decide) (lz_strength X hin hJ kk _ _ _ hR hS hl)
  | 3, _ => x_tbl (tgt := 257) (off := 224) X.1.1 X.1.2.1 (k := nI 3) rfl dL_law_33 (by decide) (by decide) (by decide) (by decide) (lz_turn X hin hJ kk _ _ _ hR hS hl)
  | 4, _ => x_tbl (tgt := 280) (off := 247) X.1.1 X.1.2.1 (k := nI 4) rfl dL_law_33 (by decide) (by decide) (by decide) (by decide) (lz_type X hin hJ kk _ _ _ hR hS hl)
  | 5, _ => x_tbl (tgt := 303) (off := 270) X.1.1 X.1.2.1 (k := nI 5) rfl dL_law_33 (by decide) (by decide) (by decide) (by decide) (lz_clear X hin hJ kk _ _ _ hR hS hl)
  | 6, _ => x_tbl (tgt := 316) (off := 283) X.1.1 X.1.2.1 (k := nI 6) rfl dL_law_33 (by decide) (by decide) (by decide) (by decide) (lz_read X hin hJ kk _ _ _ hR hS hl)
  | 7, _ => x_tbl (tgt := 329) (off := 296) X.1.1 X.1.2.1 (k := nI 7) rfl dL_law_33 (by decide) (by decide) (by decide) (by decide) (lz_run X hin hJ kk _ _ _ hR hS hl)
  | 8, _ => x_tbl (tgt := 382) (off := 349) X.1.1 X.1.2.1 (k := nI 8) rfl dL_law_33 (by decide) (by decide) (by decide) (by decide) (lz_undo X hin hJ kk _ _ _ hR hS hl)
  | 9, _ => x_tbl (tgt := 395) (off := 362) X.1.1 X.1.2.1 (k := nI 9) rfl dL_law_33 (by decide) (by decide) (by decide) (by decide) (lz_of X hin hJ kk _ _ _ hR hS hl)
  | 10, _ => x_tbl (tgt := 428) (off := 395) X.1.1 X.1.2.1 (k := nI 10) rfl dL_law_33 (by decide) (by decide) (by decide) (by decide) (lz_takes X hin hJ kk _ _ _ hR hS hl)
  | 11, _ => x_tbl (tgt := 491) (off := 458) X.1.1 X.1.2.1 (k := nI 11) rfl dL_law_33 (by decide) (by decide) (by decide) (by decide) (lz_at X hin hJ kk _ _ _ hR hS hl)
  | 12, _ => x_tbl (tgt := 566) (off := 533) X.1.1 X.1.2.1 (k := nI 12) rfl dL_law_33 (by decide) (by decide) (by decide) (by decide) (lz_lead X hin hJ kk _ _ _ hR hS hl)
  | 13, _ => x_tbl (tgt := 609) (off := 576) X.1.1 X.1.2.1 (k := nI 13) rfl dL_law_33 (by decide) (by decide) (by decide) (by decide) (lz_worth X hin hJ kk _ _ _ hR hS hl)
  | 14, _ => x_tbl (tgt := 642) (off := 609) X.1.1 X.1.2.1 (k := nI 14) rfl dL_law_33 (by decide) (by decide) (by decide) (by decide) (lz_strong X hin hJ kk _ _ _ hR hS hl)
  | 15, _ => x_tbl (tgt := 695) (off := 662) X.1.1 X.1.2.1 (k := nI 15) rfl dL_law_33 (by decide) (by decide) (by decide) (by decide) (lz_hire X hin hJ kk _ _ _ hR hS hl)
  | 16, _ => x_tbl (tgt := 758) (off := 725) X.1.1 X.1.2.1 (k := nI 16) rfl dL_law_33 (by decide) (by decide) (by decide) (by decide) (lz_dark X hin hJ kk _ _ _ hR hS hl)
  | 17, _ => x_tbl (tgt := 811) (off := 778) X.1.1 X.1.2.1 (k := nI 17) rfl dL_law_33 (by decide) (by decide) (by decide) (by decide) (lz_waits X hin hJ kk _ _ _ hR hS hl)
  | 18, _ => x_tbl (tgt := 874) (off := 841) X.1.1 X.1.2.1 (k := nI 18) rfl dL_law_33 (by decide) (by decide) (by decide) (by decide) (lz_share X hin hJ kk _ _ _ hR hS hl)
  | 19, _ => x_tbl (tgt := 927) (off := 894) X.1.1 X.1.2.1 (k := nI 19) rfl dL_law_33 (by decide) (by decide) (by decide) (by decide) (lz_key X hin hJ kk _ _ _ hR hS hl)
  | 20, _ => x_tbl (tgt := 970) (off := 937) X.1.1 X.1.2.1 (k := nI 20) rfl dL_law_33 (by decide) (by decide) (by decide) (by decide) (lz_reading X hin hJ kk _ _ _ hR hS hl)
  | 21, _ => x_tbl (tgt := 1003) (off := 970) X.1.1 X.1.2.1 (k := nI 21) rfl dL_law_33 (by decide) (by decide) (by decide) (by decide) (lz_forget X hin hJ kk _ _ _ hR hS hl)
  | 22, _ => x_tbl (tgt := 1016) (off := 983) X.1.1 X.1.2.1 (k := nI 22) rfl dL_law_33 (by decide) (by decide) (by decide) (by decide) (lz_leads X hin hJ kk _ _ _ hR hS hl)
  | 23, _ => x_tbl (tgt := 1059) (off := 1026) X.1.1 X.1.2.1 (k := nI 23) rfl dL_law_33 (by decide) (by decide) (by decide) (by decide) (lz_drawn X hin hJ kk _ _ _ hR hS hl)
  | 24, _ => x_tbl (tgt := 1112) (off := 1079) X.1.1 X.1.2.1 (k := nI 24) rfl dL_law_33 (by decide) (by decide) (by decide) (by decide) (lz_part X hin hJ kk _ _ _ hR hS hl)
  | 25, _ => x_tbl (tgt := 1136) (off := 1103) X.1.1 X.1.2.1 (k := nI 25) rfl dL_law_33 (by decide) (by decide) (by decide) (by decide) (lz_image X hin hJ kk _ _ _ hR hS hl)
  | 26, _ => x_tbl (tgt := 1159) (off := 1126) X.1.1 X.1.2.1 (k := nI 26) rfl dL_law_33 (by decide) (by decide) (by decide) (by decide) (lz_from X hin hJ kk _ _ _ hR hS hl)
  | 27, _ => x_tbl (tgt := 1182) (off := 1149) X.1.1 X.1.2.1 (k := nI 27) rfl dL_law_33 (by decide) (by decide) (by decide) (by decide) (lz_status X hin hJ kk _ _ _ hR hS hl)
  | 28, _ => x_tbl (tgt := 1205) (off := 1172) X.1.1 X.1.2.1 (k := nI 28) rfl dL_law_33 (by decide) (by decide) (by decide) (by decide) (lz_count X hin hJ kk _ _ _ hR hS hl)
  | 29, _ => x_tbl (tgt := 1228) (off := 1195) X.1.1 X.1.2.1 (k := nI 29) rfl dL_law_33 (by decide) (by decide) (by decide) (by decide) (lz_digest X hin hJ kk _ _ _ hR hS hl)
  | 30, _ => lv_tableOut (tgt := 1242) X.1.1 X.1.2.1 dL_law_33 (by decide) (by decide) (kk σ hJ _ _ _ hR hS hl)
  | 31, _ => lv_tableOut (tgt := 1242) X.1.1 X.1.2.1 dL_law_33 (by decide) (by decide) (kk σ hJ _ _ _ hR hS hl)
  | j + 32, h => absurd h (by omega)
set_option maxHeartbeats 4000000 in
set_option maxRecDepth 100000 in
theorem lz_loop {p : Program} {l : Launch} {e : Env} {s : State} {m : MethodId} {below : List Frame} {meth : Method} {c : Code} {G : GG} {b L : Nat} {xs : Nat → Int32} (hL : L ≤ 3584) (X : LzX p s m meth c G b L xs) (hAs : ∀ q, AA G q → s.heap.size ≤ q) : ∀ (n i : Nat) (x : Int32) (σ : St), L < i + 7 * n → i ≤ 3584 → x = nI i → JJ σ → LzW p l e s m below meth c G b 18 x σ := by
  obtain ⟨C, hX, hbl, hbA⟩ := id X
  have hx := C.1
  have hb := C.2.1
  intro n
  induction n with
  | zero =>
    intro i x σ hn hi hxi hJ H locs ls hR hS hl
    refine lv_iload_n hx hb dL_law_18 rfl (lv_at hl 3 rfl) ?_
    refine lv_aload_n hx hb dL_law_19 rfl (lv_at hl 0 rfl) ?_
    refine va_slen hx hb hX hbl hbA hS dL_law_20 ?_
    refine lv_bipush (v := nI 7) hx hb dL_law_21 (by decide) ?_
    refine lv_isub hx hb dL_law_23 ?_
    refine lv_icmp_gt (tgt := 1248) hx hb dL_law_24 (by decide) (fun c24 => ?_) (fun c24 => ?_)
    · refine lv_iconst (v := 1) hx hb dL_law_1248 (by decide) ?_
      refine va_forget (fun q hq => hAs _ (hS.2.2 q hq)) ?_
      refine W.widen (k := 600000) (n := 7302250) (Nat.le_of_ble_eq_true rfl) (Nat.le_of_ble_eq_true rfl) ?_
      exact lw_ret hx hb C.2.2.1 C.2.2.2.2.2.2.1 dL_law_1249
    · rw [hxi] at c24
      exact absurd ((lz_len hL hi).mpr (by omega)) c24
  | succ n ih =>
    intro i x σ hn hi hxi hJ H locs ls hR hS hl
    refine lv_iload_n hx hb dL_law_18 rfl (lv_at hl 3 rfl) ?_
    refine lv_aload_n hx hb dL_law_19 rfl (lv_at hl 0 rfl) ?_
    refine va_slen hx hb hX hbl hbA hS dL_law_20 ?_
    refine lv_bipush (v := nI 7) hx hb dL_law_21 (by decide) ?_
    refine lv_isub hx hb dL_law_23 ?_
    refine lv_icmp_gt (tgt := 1248) hx hb dL_law_24 (by decide) (fun c24 => ?_) (fun c24 => ?_)
    · refine lv_iconst (v := 1) hx hb dL_law_1248 (by decide) ?_
      refine va_forget (fun q hq => hAs _ (hS.2.2 q hq)) ?_
      refine W.widen (k := 600000) (n := 7302250) (Nat.le_of_ble_eq_true rfl) (Nat.le_of_ble_eq_true rfl) ?_
      exact lw_ret hx hb C.2.2.1 C.2.2.2.2.2.2.1 dL_law_1249
    · rw [hxi] at c24
      have h7 : i + 7 ≤ L := by
        rcases Nat.lt_or_ge L (i + 7) with q | q
        · exact absurd ((lz_len hL hi).mpr q) c24
        · exact q
      have hin : ∀ j, j ≤ 6 → vp_in (x + nI j) L := fun j hj => by
        rw [hxi, nI_add]
        exact vp_in_nI (by omega) (by omega)
      refine lv_aload_n hx hb dL_law_27 rfl (lv_at hl 0 rfl) ?_
      refine lv_iload_n hx hb dL_law_28 rfl (lv_at hl 3 rfl) ?_
      refine va_sld hx hb hX hbl hbA hS (by rw [hxi]; exact vp_in_nI (by omega) (by omega)) dL_law_29 ?_
      refine lv_bipush (v := 31) hx hb dL_law_30 (by decide) ?_
      refine lv_iand hx hb dL_law_32 ?_
      obtain ⟨j, hj, ej⟩ := pk_andE (xs x.toNatClampNeg) (m := 31) 5 rfl
      rw [ej]
      have kk : ∀ υ, JJ υ → LzW p l e s m below meth c G b 1242 x υ := by
        intro υ hJ H locs ls hR hS hl
        refine lv_iinc (v := nI (i + 7)) (lv' := [(3, .int (nI (i + 7))), (0, .ref b), (1, .ref (G.2.1 0)), (2, .ref (G.2.1 75))]) hx hb dL_law_1242 hl (k := 3) rfl (by rw [hxi, show Int32.ofInt 7 = nI 7 by decide]; exact nI_add i 7) (by decide) rfl (fun ls hl => ?_)
        refine lv_goto (tgt := 18) hx hb dL_law_1245 (by decide) ?_
        exact ih (i + 7) _ υ (by omega) (by omega) rfl hJ _ _ _ hR hS (lv_sub hl [1, 2, 3, 0] rfl)
      exact lz_switch X hin hJ kk hR hS hl j hj
