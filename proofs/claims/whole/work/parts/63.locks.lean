/-! reading the locks -/
theorem frx_adl {c s w : Nat} {kd : Int32} {σ : St} {a : Nat → Int32} (h : FRx c 0 0 (g6 σ) (r6 σ) a) (hc : c < 8) (hs : s < 2) (hw : w ≤ 20) : FRx (c + 1) 0 0 (g6 (adl c kd (nI s) (nI w) σ)) (r6 (adl c kd (nI s) (nI w) σ)) (fun n => if n = 0 then nI (c + 1) else if n = 6 + 3 * c then kd else if n = 7 + 3 * c then nI s else if n = 8 + 3 * c then nI w else a n) := by
  have h5 : a 5 = 0 := h.2.2.2.2.2.2.2.2.2.2.2.1
  have hA : ∀ k b, sA (adl c kd (nI s) (nI w) σ) k b = if k = 50 ∧ b = c then nI w else if k = 48 ∧ b = c then kd else sA σ k b := fun k b => rfl
  refine FRx.lock (kd := kd) (w := w) h hc hs hw rfl rfl rfl rfl rfl rfl rfl (fun i => ?_) (fun i => ?_) (fun i => rfl) (fun i => rfl) rfl ?_ ?_ ?_ ?_ (fun n h1 h2 h3 => ?_)
  · show sA _ (46 + 2 + 2 * 0) i = _
    rw [hA, if_neg (by omega)]
    by_cases e : i = c
    · rw [if_pos ⟨rfl, e⟩, if_pos e]
    · rw [if_neg (fun q => e q.2), if_neg e]
  · show sA _ (46 + 2 + 2 * 1) i = _
    rw [hA]
    by_cases e : i = c
    · rw [if_pos ⟨rfl, e⟩, if_pos e]
    · rw [if_neg (fun q => e q.2), if_neg (by omega), if_neg e]
  · show (if 5 = 0 then _ else _) = _
    rw [if_neg (by decide), if_neg (by omega), if_neg (by omega), if_neg (by omega), h5]
  · rw [if_neg (by omega), if_pos rfl]
  · rw [if_neg (by omega), if_neg (by omega), if_pos rfl]
  · rw [if_neg (by omega), if_neg (by omega), if_neg (by omega), if_pos rfl]
  · rw [if_neg h1, if_neg (by omega), if_neg (by omega), if_neg (by omega)]
theorem rd_locks {A : Nat → Int32} {T : Nat} : ∀ (N i t c n : Nat) (σ : St), T - i ≤ N → i ≤ T → t ≤ i → T - i < n → Cl σ A T → sI σ 46 0 = nI c → c ≤ 8 → ∃ r σ', f_X3_faultInto_11 n 3 (nI i) (nI t) σ = some (r, σ') ∧ Kz σ σ' ∧ ∀ (m : Nat) (ρ : St), T - i < m → Ml ρ A T → Tk ρ A T i → FRx c 0 0 (g6 σ) (r6 σ) (sA ρ 87) → ∃ r' ρ', f_X6_read_26 m (nI (1 + c)) ρ = some (r', ρ') ∧ RS σ' ρ r r' ρ' := by
  intro N
  induction N with
  | zero =>
    intro i t c n σ hN hi ht hn hC hc hc8
    have hiT : i = T := by omega
    subst hiT
    obtain ⟨n, rfl⟩ : ∃ n', n = n' + 1 := ⟨n - 1, by omega⟩
    refine ⟨-1, σ, ?_, Kz.rf, fun m ρ hm hM hk hF => ?_⟩
    · rw [e_end hC]; rfl
    · obtain ⟨m, rfl⟩ : ∃ m', m = m' + 1 := ⟨m - 1, by omega⟩
      have k0 : knd A i i = 0 := by unfold knd; rw [if_pos (Nat.le_refl _)]
      refine ⟨nI (1 + c), _, ?_, Or.inl ⟨rfl, ?_, ρ, c, Mz.rf, rfl, hF⟩⟩
      · rw [f_X6_read_26, if_pos (show sI ρ 75 18 = 0 from (hk.k (n := 0) (by decide)).mpr k0), m_read68]
      · rw [hc, ← nI_add]; rfl
  | succ N ih =>
    intro i t c n σ hN hi ht hn hC hc hc8
    by_cases hiT : i = T
    · exact ih i t c n σ (by omega) hi ht hn hC hc hc8
    · have hT := hC.1
      have hl : i < T := by omega
      have hb1 := nx_b (A := A) hl
      obtain ⟨n, rfl⟩ : ∃ n', n = n' + 1 := ⟨n - 1, by omega⟩
      have hkp : 0 < knd A T i := by
        unfold knd
        rw [if_neg (by omega)]
        split
        · decide
        · split
          · split <;> decide
          · split <;> decide
      have s3 := e_s3 (n := n) hC hl ht hc hc8
      by_cases o3 : isW A T i 4 cw1 ∧ c < 8
      · have c8 : c < 8 := o3.2
        have q3 := s3.2 o3
        obtain ⟨n, rfl⟩ : ∃ n', n = n' + 1 := ⟨n - 1, by omega⟩
        have s4 := e_s4 (n := n) (i := nx A T i) (t := t + 1) hC hb1.2 (by omega)
        by_cases o4 : okN A T (nx A T i) 0 5
        · have q4 := s4.2 o4
          have hb2 := nx_b (A := A) o4.lt
          have hC1 : Cl (pI σ 72 2 (nv A T (nx A T i))) A T := hC.kz (Kz.p (by decide))
          obtain ⟨n, rfl⟩ : ∃ n', n = n' + 1 := ⟨n - 1, by omega⟩
          have s5 := e_s5 (n := n) (i := nx A T (nx A T i)) (t := t + 1 + 1) hC1 hb2.2 (by omega)
          by_cases o5 : okN A T (nx A T (nx A T i)) 0 1
          · have q5 := s5.2 o5
            have hb3 := nx_b (A := A) o5.lt
            have hC2 := hC1.kz (Kz.p (j := 3) (v := nv A T (nx A T (nx A T i))) (by decide))
            obtain ⟨n, rfl⟩ : ∃ n', n = n' + 1 := ⟨n - 1, by omega⟩
            have s6 := e_s6 (n := n) (i := nx A T (nx A T (nx A T i))) (t := t + 1 + 1 + 1) hC2 hb3.2 (by omega)
            by_cases o6 : okN A T (nx A T (nx A T (nx A T i))) 1 20
            · have q6 := s6.2 o6
              have hb4 := nx_b (A := A) o6.lt
              have hC3 := hC2.kz (Kz.p (j := 4) (v := nv A T (nx A T (nx A T (nx A T i)))) (by decide))
              obtain ⟨n, rfl⟩ : ∃ n', n = n' + 1 := ⟨n - 1, by omega⟩
              have s7 := e_s7 (n := n) (i := nx A T (nx A T (nx A T (nx A T i)))) (t := t + 1 + 1 + 1 + 1) (c := c) hC3 hb4.2 (by omega) hc c8
              obtain ⟨s, hs, es⟩ := i_of (n := 1) rfl o5.2
              obtain ⟨w, hw, ew⟩ := i_of (x := nv A T (nx A T (nx A T (nx A T i)))) (n := 20) rfl ⟨Int32.le_trans (by decide) o6.2.1, o6.2.2⟩
              generalize hσ3 : pI (pI (pI σ 72 2 (nv A T (nx A T i))) 72 3 (nv A T (nx A T (nx A T i)))) 72 4 (nv A T (nx A T (nx A T (nx A T i)))) = σ3 at *
              have hz3 : Kz σ σ3 := by rw [← hσ3]; exact ((Kz.p (by decide)).tr (Kz.p (by decide))).tr (Kz.p (by decide))
              have v2 : sI σ3 72 2 = nv A T (nx A T i) := by rw [← hσ3]; rfl
              have v3 : sI σ3 72 3 = nI s := by rw [← es, ← hσ3]; rfl
              have v4 : sI σ3 72 4 = nI w := by rw [← ew, ← hσ3]; rfl
              have g3 : ∀ a, FRx c 0 0 (g6 σ) (r6 σ) a → FRx c 0 0 (g6 σ3) (r6 σ3) a := fun a q => by rw [← hσ3]; exact q
              have cls : f_X3_faultInto_11 (n + 1 + 1 + 1 + 1 + 1) 3 (nI i) (nI t) σ = f_X3_faultInto_11 (n + 1) 7 (nI (nx A T (nx A T (nx A T (nx A T i))))) (nI (t + 1 + 1 + 1 + 1)) σ3 := by
                rw [q3, q4, q5, q6]
              /- the reference's lock -/
              have mdl : ∀ ρ : St, Ml ρ A T → Tk ρ A T i → sA ρ 87 0 = nI c → ∃ ρ4, f_X6_readsLock ρ = some (1, sR ρ4 87 (fun n => if n = 0 then nI (c + 1) else if n = 6 + 3 * c then nv A T (nx A T i) else if n = 7 + 3 * c then nI s else if n = 8 + 3 * c then nI w else sA ρ 87 n)) ∧ Tk ρ4 A T (nx A T (nx A T (nx A T (nx A T i)))) ∧ Mz ρ ρ4 := by
                intro ρ hM hk h87
                obtain ⟨ρ1, a1, a2, a3⟩ := (m_r0 hM hk h87 hc8).2 o3
                obtain ⟨ρ2, b1, b2, b3⟩ := (m_r1 (hM.fz a3) a2).2 o4
                have z2 : Mz ρ ρ2 := a3.Mz.tr (fz_a b3)
                obtain ⟨ρ3, c1, c2, c3⟩ := (m_r2 (hM.mz z2) b2).2 o5
                have z3 : Mz ρ ρ3 := z2.tr (fz_a c3)
                obtain ⟨ρ4, d1, d2, d3⟩ := (m_r3 (hM.mz z3) c2).2 o6
                have z4 : Mz ρ ρ4 := z3.tr (fz_a d3)
                have f1 : ∀ b, sA ρ1 87 b = sA ρ 87 b := fun b => a3.A 87 b
                have f2 : ∀ b, sA ρ2 87 b = sA ρ 87 b := fun b => (b3.A 87 b).trans (by rw [sA_pA, if_neg (by omega)]; exact f1 b)
                have f3 : ∀ b, sA ρ3 87 b = sA ρ 87 b := fun b => (c3.A 87 b).trans (by rw [sA_pA, if_neg (by omega)]; exact f2 b)
                have f4 : ∀ b, sA ρ4 87 b = sA ρ 87 b := fun b => (d3.A 87 b).trans (by rw [sA_pA, if_neg (by omega)]; exact f3 b)
                have y0 : sA ρ4 88 0 = nv A T (nx A T i) := by
                  rw [d3.A, sA_pA, if_neg (by omega), c3.A, sA_pA, if_neg (by omega), b3.A, sA_pA, if_pos ⟨rfl, rfl⟩]
                have y1 : sA ρ4 88 1 = nI s := by
                  rw [d3.A, sA_pA, if_neg (by omega), c3.A, sA_pA, if_pos ⟨rfl, rfl⟩, es]
                have y2 : sA ρ4 88 2 = nI w := by
                  rw [d3.A, sA_pA, if_pos ⟨rfl, rfl⟩, ew]
                refine ⟨ρ4, ?_, d2, z4⟩
                rw [a1, b1, c1, d1, y0, y1, y2, m_lay87 ((f4 0).trans h87) c8, bv_s, show sA ρ4 87 = sA ρ 87 from funext f4]
              by_cases o7 : knd A T (nx A T (nx A T (nx A T (nx A T i)))) = 3
              · have q7 := s7.2 o7
                have hl4 : nx A T (nx A T (nx A T (nx A T i))) < T := knd_lt (by rw [o7]; decide)
                have hb5 := nx_b (A := A) hl4
                rw [v2, v3, v4] at q7
                have hzA := hz3.tr (adl_k c (nv A T (nx A T i)) (nI s) (nI w) σ3)
                obtain ⟨r, σ', e1, e2, e3⟩ := ih (nx A T (nx A T (nx A T (nx A T (nx A T i))))) (t + 1 + 1 + 1 + 1 + 1) (c + 1) n (adl c (nv A T (nx A T i)) (nI s) (nI w) σ3) (by omega) hb5.2 (by omega) (by omega) (hC.kz hzA) rfl (by omega)
                refine ⟨r, σ', (cls.trans q7).trans e1, hzA.tr e2, fun m ρ hm hM hk hF => ?_⟩
                obtain ⟨m, rfl⟩ : ∃ m', m = m' + 1 := ⟨m - 1, by omega⟩
                obtain ⟨ρ4, g1, g2, g4⟩ := mdl ρ hM hk hF.2.2.2.2.1
                generalize hρ5 : sR ρ4 87 (fun n => if n = 0 then nI (c + 1) else if n = 6 + 3 * c then nv A T (nx A T i) else if n = 7 + 3 * c then nI s else if n = 8 + 3 * c then nI w else sA ρ 87 n) = ρ5 at g1
                have z5 : Mz ρ ρ5 := by rw [← hρ5]; exact g4.tr Mz.r
                have k5 : Tk ρ5 A T (nx A T (nx A T (nx A T (nx A T i)))) := by rw [← hρ5]; exact g2.same fun b => rfl
                obtain ⟨ρ6, j1, j2, j3⟩ := m_goOn (hM.mz z5) hl4 k5
                have hF6 : FRx (c + 1) 0 0 (g6 (adl c (nv A T (nx A T i)) (nI s) (nI w) σ3)) (r6 (adl c (nv A T (nx A T i)) (nI s) (nI w) σ3)) (sA ρ6 87) := by
                  have := frx_adl (kd := nv A T (nx A T i)) (s := s) (w := w) (g3 _ hF) c8 (by omega) hw
                  have e87 : sA ρ6 87 = (fun n => if n = 0 then nI (c + 1) else if n = 6 + 3 * c then nv A T (nx A T i) else if n = 7 + 3 * c then nI s else if n = 8 + 3 * c then nI w else sA ρ 87 n) := by
                    funext b
                    rw [j3.A, ← hρ5, sR_at]
                  rw [e87]
                  exact this
                obtain ⟨r', ρ', x1, x2⟩ := e3 m ρ6 (by omega) ((hM.mz z5).fz j3) j2 hF6
                refine ⟨r', ρ', ?_, x2.tr (z5.tr j3.Mz)⟩
                rw [f_X6_read_26, if_neg (show ¬ sI ρ 75 18 = 0 from fun q => by
                  have := (hk.k (n := 0) (by decide)).mp q
                  omega), g1, bd_s, if_neg (by decide), if_pos (show sI ρ5 75 18 = 3 from (k5.k (n := 3) (by decide)).mpr o7), j1, bv_s, nI_1, show 1 + c + 1 = 1 + (c + 1) by omega]
                exact x1
              · obtain ⟨σ2, e1, e2⟩ := s7.1 o7
                refine ⟨_, σ2, cls.trans e1, hz3.tr e2, fun m ρ hm hM hk hF => ?_⟩
                obtain ⟨m, rfl⟩ : ∃ m', m = m' + 1 := ⟨m - 1, by omega⟩
                obtain ⟨ρ4, g1, g2, g4⟩ := mdl ρ hM hk hF.2.2.2.2.1
                refine ⟨-10 - nI (nx A T (nx A T (nx A T (nx A T i)))), sR ρ4 87 (fun n => if n = 0 then nI (c + 1) else if n = 6 + 3 * c then nv A T (nx A T i) else if n = 7 + 3 * c then nI s else if n = 8 + 3 * c then nI w else sA ρ 87 n), ?_, Or.inr ⟨f_bad (by omega), rfl, g4.tr Mz.r⟩⟩
                rw [f_X6_read_26, if_neg (show ¬ sI ρ 75 18 = 0 from fun q => by
                  have := (hk.k (n := 0) (by decide)).mp q
                  omega), g1, bd_s, if_neg (by decide), sR_I, if_neg (show ¬ sI ρ4 75 18 = 3 from fun q => o7 ((g2.k (n := 3) (by decide)).mp q))]
                unfold f_X6_read_48
                rw [sR_I, g2.1]
            · obtain ⟨σ2, e1, e2⟩ := s6.1 o6
              refine ⟨_, σ2, ((q3.trans q4).trans q5).trans e1, ((Kz.p (by decide)).tr (Kz.p (by decide))).tr e2, fun m ρ hm hM hk hF => ?_⟩
              obtain ⟨m, rfl⟩ : ∃ m', m = m' + 1 := ⟨m - 1, by omega⟩
              obtain ⟨ρ1, a1, a2, a3⟩ := (m_r0 hM hk hF.2.2.2.2.1 hc8).2 o3
              obtain ⟨ρ2, b1, b2, b3⟩ := (m_r1 (hM.fz a3) a2).2 o4
              have z2 : Mz ρ ρ2 := a3.Mz.tr (fz_a b3)
              obtain ⟨ρ3, c1, c2, c3⟩ := (m_r2 (hM.mz z2) b2).2 o5
              have z3 : Mz ρ ρ3 := z2.tr (fz_a c3)
              exact m_flt hk hkp (by omega) (((a1.trans b1).trans c1).trans ((m_r3 (hM.mz z3) c2).1 o6)) z3 c2.1
          · obtain ⟨σ2, e1, e2⟩ := s5.1 o5
            refine ⟨_, σ2, (q3.trans q4).trans e1, (Kz.p (by decide)).tr e2, fun m ρ hm hM hk hF => ?_⟩
            obtain ⟨m, rfl⟩ : ∃ m', m = m' + 1 := ⟨m - 1, by omega⟩
            obtain ⟨ρ1, a1, a2, a3⟩ := (m_r0 hM hk hF.2.2.2.2.1 hc8).2 o3
            obtain ⟨ρ2, b1, b2, b3⟩ := (m_r1 (hM.fz a3) a2).2 o4
            have z2 : Mz ρ ρ2 := a3.Mz.tr (fz_a b3)
            exact m_flt hk hkp (by omega) ((a1.trans b1).trans ((m_r2 (hM.mz z2) b2).1 o5)) z2 b2.1
        · obtain ⟨σ2, e1, e2⟩ := s4.1 o4
          refine ⟨_, σ2, q3.trans e1, e2, fun m ρ hm hM hk hF => ?_⟩
          obtain ⟨m, rfl⟩ : ∃ m', m = m' + 1 := ⟨m - 1, by omega⟩
          obtain ⟨ρ1, a1, a2, a3⟩ := (m_r0 hM hk hF.2.2.2.2.1 hc8).2 o3
          exact m_flt hk hkp (by omega) (a1.trans ((m_r1 (hM.fz a3) a2).1 o4)) a3.Mz a2.1
      · refine ⟨_, σ, s3.1 o3, Kz.rf, fun m ρ hm hM hk hF => ?_⟩
        obtain ⟨m, rfl⟩ : ∃ m', m = m' + 1 := ⟨m - 1, by omega⟩
        exact m_flt hk hkp (by omega) ((m_r0 hM hk hF.2.2.2.2.1 hc8).1 o3) Mz.rf hk.1
