abbrev vwCl : List vw_C := [(RX0, TX0, 14), (RX2, TX2, 1), (RX3, TX3, 5), (RX4, TX4, 14), (RX5, TX5, 13), (RX6, TX6, 22)]
/-! THE WORLD. 89 cells in the order in which the law's two objects make them: 0 .. 74 the class's, 75 .. 88 the reference's. St: the ints of objects (cell, slot), the longs, the ints of arrays (cell, place). -/
abbrev St : Type := (Nat → Nat → Int32) × (Nat → Nat → Int64) × (Nat → Nat → Int32)
def up2 {α : Type} (f : Nat → Nat → α) (k j : Nat) (v : α) : Nat → Nat → α := fun a b => if a = k ∧ b = j then v else f a b
def sI (σ : St) (k j : Nat) : Int32 := σ.1 k j
def sL (σ : St) (k j : Nat) : Int64 := σ.2.1 k j
def sA (σ : St) (k j : Nat) : Int32 := σ.2.2 k j
def pI (σ : St) (k j : Nat) (v : Int32) : St := (up2 σ.1 k j v, σ.2.1, σ.2.2)
def pL (σ : St) (k j : Nat) (v : Int64) : St := (σ.1, up2 σ.2.1 k j v, σ.2.2)
def pA (σ : St) (k j : Nat) (v : Int32) : St := (σ.1, σ.2.1, up2 σ.2.2 k j v)
theorem sI_pI (σ : St) (k j : Nat) (v : Int32) (a b : Nat) : sI (pI σ k j v) a b = if a = k ∧ b = j then v else sI σ a b := rfl
theorem sI_pL (σ : St) (k j : Nat) (v : Int64) (a b : Nat) : sI (pL σ k j v) a b = sI σ a b := rfl
theorem sI_pA (σ : St) (k j : Nat) (v : Int32) (a b : Nat) : sI (pA σ k j v) a b = sI σ a b := rfl
theorem sL_pI (σ : St) (k j : Nat) (v : Int32) (a b : Nat) : sL (pI σ k j v) a b = sL σ a b := rfl
theorem sL_pL (σ : St) (k j : Nat) (v : Int64) (a b : Nat) : sL (pL σ k j v) a b = if a = k ∧ b = j then v else sL σ a b := rfl
theorem sL_pA (σ : St) (k j : Nat) (v : Int32) (a b : Nat) : sL (pA σ k j v) a b = sL σ a b := rfl
theorem sA_pI (σ : St) (k j : Nat) (v : Int32) (a b : Nat) : sA (pI σ k j v) a b = sA σ a b := rfl
theorem sA_pL (σ : St) (k j : Nat) (v : Int64) (a b : Nat) : sA (pL σ k j v) a b = sA σ a b := rfl
theorem sA_pA (σ : St) (k j : Nat) (v : Int32) (a b : Nat) : sA (pA σ k j v) a b = if a = k ∧ b = j then v else sA σ a b := rfl
theorem sA_self {σ : St} {k j : Nat} {v : Int32} : sA (pA σ k j v) k j = v := by rw [sA_pA, if_pos ⟨rfl, rfl⟩]
/-- the kind of each cell: 0 Flight, 1 Row, 2 TextReader, 3 Trip, 4 LockFlight, 5 the reference, 6 ints, 7 booleans -/
def kdl : List Nat := [4, 0, 1, 6, 1, 6, 1, 6, 1, 6, 1, 6, 1, 6, 1, 6, 0, 1, 6, 1, 6, 1, 6, 1, 6, 1, 6, 1, 6, 1, 6, 0, 1, 6, 1, 6, 1, 6, 1, 6, 1, 6, 1, 6, 1, 6, 0, 1, 6, 1, 6, 1, 6, 1, 6, 1, 6, 1, 6, 1, 6, 3, 1, 6, 1, 6, 1, 6, 1, 6, 1, 6, 2, 1, 6, 5, 6, 6, 7, 6, 6, 6, 6, 6, 6, 6, 6, 6, 6]
def lnl : List Nat := [0, 0, 0, 8, 0, 8, 0, 6, 0, 6, 0, 8, 0, 8, 0, 8, 0, 0, 8, 0, 8, 0, 6, 0, 6, 0, 8, 0, 8, 0, 8, 0, 0, 8, 0, 8, 0, 6, 0, 6, 0, 8, 0, 8, 0, 8, 0, 0, 8, 0, 8, 0, 6, 0, 6, 0, 8, 0, 8, 0, 8, 0, 0, 8, 0, 8, 0, 8, 0, 8, 0, 8, 0, 0, 150, 0, 122, 244, 2, 3, 8, 8, 8, 8, 8, 8, 150, 42, 3]
def kd (k : Nat) : Nat := kdl.getD k 9
def ln (k : Nat) : Nat := lnl.getD k 0
theorem kd_lt {k c : Nat} (h : kd k = c) (hc : c < 9) : k < 89 := by
  rcases Nat.lt_or_ge k 89 with q | q
  · exact q
  · exfalso
    have h1 : kd k = 9 := by
      unfold kd
      rw [List.getD_eq_getElem?_getD, List.getElem?_eq_none (show kdl.length ≤ k from q)]
      rfl
    omega
/-- the tables' numbers, the addresses, the classes of the two kinds of arrays -/
abbrev GG : Type := va_G × (Nat → Nat) × ClassId × ClassId × (Nat → Nat) × (Nat → Nat)
def fs0 (G : GG) (σ : St) (k : Nat) : List Value := [.int (sI σ k 0), .int (sI σ k 1), .int (sI σ k 2), .int (sI σ k 3), .int (sI σ k 4), .int (sI σ k 5), .int (sI σ k 6), .ref (G.2.1 (k + 1)), .ref (G.2.1 (k + 3)), .ref (G.2.1 (k + 5)), .ref (G.2.1 (k + 7)), .ref (G.2.1 (k + 9)), .ref (G.2.1 (k + 11)), .ref (G.2.1 (k + 13))]
def fs1 (G : GG) (k : Nat) : List Value := [.ref (G.2.1 (k + 1))]
def fs2 (G : GG) (σ : St) (k : Nat) : List Value := [.int (sI σ k 0), .ref (G.2.1 (k + 1)), .int (sI σ k 2), .int (sI σ k 3), .int (sI σ k 4)]
def fs3 (G : GG) (σ : St) (k : Nat) : List Value := [.int (sI σ k 0), .int (sI σ k 1), .int (sI σ k 2), .int (sI σ k 3), .int (sI σ k 4), .int (sI σ k 5), .int (sI σ k 6), .int (sI σ k 7), .int (sI σ k 8), .ref (G.2.1 (k + 1)), .ref (G.2.1 (k + 3)), .ref (G.2.1 (k + 5)), .ref (G.2.1 (k + 7)), .ref (G.2.1 (k + 9))]
def fs4 (G : GG) (σ : St) (k : Nat) : List Value := [.ref (G.2.1 (k + 1)), .ref (G.2.1 (k + 16)), .ref (G.2.1 (k + 31)), .ref (G.2.1 (k + 46)), .ref (G.2.1 (k + 61)), .ref (G.2.1 (k + 72)), .int (sI σ k 6), .int (sI σ k 7), .long (sL σ k 8), .long (sL σ k 9), .int (sI σ k 10), .int (sI σ k 11), .int (sI σ k 12)]
def fs5 (G : GG) (σ : St) (k : Nat) : List Value := [.ref (G.2.1 (k + 1)), .ref (G.2.1 (k + 2)), .ref (G.2.1 (k + 3)), .ref (G.2.1 (k + 4)), .long (sL σ k 4), .long (sL σ k 5), .ref (G.2.1 (k + 5)), .ref (G.2.1 (k + 6)), .ref (G.2.1 (k + 7)), .ref (G.2.1 (k + 8)), .ref (G.2.1 (k + 9)), .ref (G.2.1 (k + 10)), .int (sI σ k 12), .int (sI σ k 13), .ref (G.2.1 (k + 11)), .int (sI σ k 15), .int (sI σ k 16), .int (sI σ k 17), .int (sI σ k 18), .int (sI σ k 19), .ref (G.2.1 (k + 12)), .ref (G.2.1 (k + 13))]
/-- what a cell holds -/
def cz (G : GG) (σ : St) (k : Nat) : va_E := match kd k with
  | 0 => .inr (0, fs0 G σ k)
  | 1 => .inr (1, fs1 G k)
  | 2 => .inr (2, fs2 G σ k)
  | 3 => .inr (3, fs3 G σ k)
  | 4 => .inr (4, fs4 G σ k)
  | 5 => .inr (5, fs5 G σ k)
  | 6 => .inl (G.2.2.1, ln k, .inl (sA σ k))
  | _ => .inl (G.2.2.2.1, ln k, .inl (sA σ k))
theorem cz0 {G : GG} {σ : St} {k : Nat} (h : kd k = 0) : cz G σ k = .inr (0, fs0 G σ k) := by unfold cz; rw [h]; rfl
theorem cz1 {G : GG} {σ : St} {k : Nat} (h : kd k = 1) : cz G σ k = .inr (1, fs1 G k) := by unfold cz; rw [h]; rfl
theorem cz2 {G : GG} {σ : St} {k : Nat} (h : kd k = 2) : cz G σ k = .inr (2, fs2 G σ k) := by unfold cz; rw [h]; rfl
theorem cz3 {G : GG} {σ : St} {k : Nat} (h : kd k = 3) : cz G σ k = .inr (3, fs3 G σ k) := by unfold cz; rw [h]; rfl
theorem cz4 {G : GG} {σ : St} {k : Nat} (h : kd k = 4) : cz G σ k = .inr (4, fs4 G σ k) := by unfold cz; rw [h]; rfl
theorem cz5 {G : GG} {σ : St} {k : Nat} (h : kd k = 5) : cz G σ k = .inr (5, fs5 G σ k) := by unfold cz; rw [h]; rfl
theorem cz6 {G : GG} {σ : St} {k : Nat} (h : kd k = 6) : cz G σ k = .inl (G.2.2.1, ln k, .inl (sA σ k)) := by unfold cz; rw [h]; rfl
theorem cz7 {G : GG} {σ : St} {k : Nat} (h : kd k = 7) : cz G σ k = .inl (G.2.2.2.1, ln k, .inl (sA σ k)) := by unfold cz; rw [h]; rfl
theorem cz_eq {G : GG} {σ τ : St} {k : Nat} (h1 : ∀ j, sI τ k j = sI σ k j) (h2 : ∀ j, sL τ k j = sL σ k j) (h3 : ∀ j, sA τ k j = sA σ k j) : cz G τ k = cz G σ k := by
  have e3 : sA τ k = sA σ k := funext h3
  unfold cz fs0 fs2 fs3 fs4 fs5
  simp only [h1, h2, e3]
def iw (ad : Nat → Nat) (w : Nat → va_E) (N : Nat) : va_W := (List.range N).map (fun k => (ad k, w k))
theorem iw_at {ad : Nat → Nat} {w : Nat → va_E} {N k : Nat} (h : k < N) : (iw ad w N)[k]? = some (ad k, w k) := by simp [iw, h]
theorem iw_in {ad : Nat → Nat} {w : Nat → va_E} {N k : Nat} {q : Nat × va_E} (h : (iw ad w N)[k]? = some q) : k < N ∧ q = (ad k, w k) := by
  have h1 : k < N := by
    have := (List.getElem?_eq_some_iff.mp h).1
    simpa [iw] using this
  rw [iw_at h1] at h
  exact ⟨h1, (Option.some.inj h).symm⟩
theorem iw_set {ad : Nat → Nat} {w w' : Nat → va_E} {N k : Nat} {e : va_E} (h1 : w' k = e) (h2 : ∀ j, j ≠ k → w' j = w j) : (iw ad w N).set k (ad k, e) = iw ad w' N := by
  refine List.ext_getElem? fun i => ?_
  rw [List.getElem?_set]
  by_cases hk : k = i
  · subst hk
    by_cases hi : k < N
    · rw [if_pos rfl, if_pos (by simpa [iw] using hi), iw_at hi, h1]
    · rw [if_pos rfl, if_neg (by simpa [iw] using hi), List.getElem?_eq_none (by simpa [iw] using hi)]
  · rw [if_neg hk]
    by_cases hi : i < N
    · rw [iw_at hi, iw_at hi, h2 i (Ne.symm hk)]
    · rw [List.getElem?_eq_none (by simpa [iw] using hi), List.getElem?_eq_none (by simpa [iw] using hi)]
def wl (G : GG) (σ : St) : va_W := iw G.2.1 (cz G σ) 89
def Rp (G : GG) (σ : St) (H : Heap) : Prop := va_P G.1 vwCl (wl G σ) H
/-- what the tables say at every state: classes, nest mates, the two texts -/
def Kp (G : GG) (U : State) : Prop := va_K G.1 vwCl [(G.2.2.1, .int), (G.2.2.2.1, .boolean)] U ∧ va_Nw (.methodLinkNest RX0 64 yX5_within RX5) U ∧ va_Nw (.methodLinkNest RX3 58 yX5_within RX5) U ∧ va_Nw (.methodLinkNest RX4 120 yX5_halfCutUp RX5) U ∧ vk_R RX3 52 "flight" (G.2.2.2.2.1 0) U ∧ vk_R RX3 70 "lock" (G.2.2.2.2.1 1) U
def AA (G : GG) : Nat → Prop := fun q => ∃ k, k < 89 ∧ q = G.2.1 k
/-- what lies outside: the two texts, two of the JDK's statics -/
def Zp (G : GG) (U : State) (H : Heap) : Prop := vk_S 2 [6, 4] [[102, 108, 105, 103, 104, 116], [108, 111, 99, 107]] G.2.2.2.2.1 G.2.2.2.2.2 (AA G) U H ∧ va_Z "java/lang/String" "COMPACT_STRINGS" "Z" (.int 1) (AA G) U H ∧ va_Zq "jdk/internal/util/Preconditions" "SIOOBE_FORMATTER" "Ljava/util/function/BiFunction;" (AA G) U H
theorem Kp.warm {G : GG} {s U : State} (h : s.WarmedH U.vm) (hK : Kp G s) : Kp G U := ⟨va_K.moved h.alike hK.1, va_Nw.warmM h hK.2.1, va_Nw.warmM h hK.2.2.1, va_Nw.warmM h hK.2.2.2.1, vk_R.warm h hK.2.2.2.2.1, vk_R.warm h hK.2.2.2.2.2⟩
theorem Zp.moved {G : GG} {u U : State} {H : Heap} (h : u.vm.Alike U.vm) (hZ : Zp G u H) : Zp G U H := ⟨vk_S.moved h hZ.1, va_Z.moved h hZ.2.1, va_Zq.moved h hZ.2.2⟩
theorem Zp.kept {G : GG} {U : State} {H H1 : Heap} (hZ : Zp G U H) (hq : ∀ a : Nat, a < H.size → ¬ AA G a → H1[a]? = H[a]?) : Zp G U H1 := ⟨vk_S.kept hZ.1 hq, va_Z.kept hZ.2.1 hq, va_Zq.kept hZ.2.2 hq⟩
def Ij (G : GG) : Prop := ∀ i j, i < 89 → j < 89 → G.2.1 i = G.2.1 j → i = j
theorem wl_D {G : GG} (h : Ij G) (σ : St) : va_D (AA G) (wl G σ) := by
  refine ⟨fun i j a b ha hb e => ?_, fun k q hq => ?_⟩
  · obtain ⟨hi, rfl⟩ := iw_in ha
    obtain ⟨hj, rfl⟩ := iw_in hb
    exact h i j hi hj e
  · obtain ⟨hk, rfl⟩ := iw_in hq
    exact ⟨k, hk, rfl⟩
def rmD (d : Nat) : Room := { frames := d, cells := 0, slots := 0, locals := 36 * d }
def Pr (G : GG) (σ : St) (U : State) : Prop := Ij G ∧ Rp G σ U.heap ∧ Kp G U ∧ Zp G U U.heap
abbrev PB (G : GG) : St → State → Prop := fun u t => Rp G u t.heap
/-- contracts: an int (or a boolean), a long, nothing comes back; nothing is made -/
def CI (l : Launch) (y : MethodName) (ws : List Cond) (d : Nat) (av : List Value) (G : GG) (σ : St) (Q : Int32 → St → Prop) : Prop := Met l y ws (rmD d) (va_Pc av (Pr G σ)) (va_Qi Q (PB G) (AA G)) 0 0 (AA G)
def CL (l : Launch) (y : MethodName) (ws : List Cond) (d : Nat) (av : List Value) (G : GG) (σ : St) (Q : Int64 → St → Prop) : Prop := Met l y ws (rmD d) (va_Pc av (Pr G σ)) (va_Ql Q (PB G) (AA G)) 0 0 (AA G)
def CV (l : Launch) (y : MethodName) (ws : List Cond) (d : Nat) (av : List Value) (G : GG) (σ : St) (Q : St → Prop) : Prop := Met l y ws (rmD d) (va_Pc av (Pr G σ)) (va_Qv Q (PB G) (AA G)) 0 0 (AA G)
theorem Pr_blind (G : GG) (σ : St) (av : List Value) : FrameBlind (va_Pc av (Pr G σ)) := fun a U g mk q => ⟨q.1, q.2.1, q.2.2.1, ⟨va_K.moved (u := U) (U := U.calling g mk a) (Vm.Alike.refl U.vm) q.2.2.2.1.1, va_Nw.same (U := U.calling g mk a) rfl rfl q.2.2.2.1.2.1, va_Nw.same (U := U.calling g mk a) rfl rfl q.2.2.2.1.2.2.1, va_Nw.same (U := U.calling g mk a) rfl rfl q.2.2.2.1.2.2.2.1, vk_R.same (U := U.calling g mk a) rfl q.2.2.2.1.2.2.2.2.1, vk_R.same (U := U.calling g mk a) rfl q.2.2.2.1.2.2.2.2.2⟩, Zp.moved (u := U) (U := U.calling g mk a) (Vm.Alike.refl U.vm) q.2.2.2.2⟩
/-- what holds throughout a method's walk -/
def Cx (p : Program) (s : State) (m : MethodId) (args : Array Value) (meth : Method) (c : Code) (cc : ByteArray) (own : String) (Ts : List Cond) (ret : Option FieldType) (nL : Nat) (G : GG) : Prop :=
  p.tables.exec = Jvm.exec ∧ c.code = cc ∧ meth.sig.returnType = ret ∧ c.maxLocals = nL ∧ s.vm.findClass own = some m.cls ∧ (∀ w ∈ Ts, w.before args s = true) ∧ meth.locks = false ∧ Ij G ∧ Kp G s ∧ Zp G s s.heap
/-- the words of the functions -/
def FU : Nat := 1000
def gd {γ : Type} (c : Prop) [Decidable c] (x : Option γ) : Option γ := if c then none else x
theorem gd_some {γ : Type} {c : Prop} [Decidable c] {x : Option γ} {y : γ} (h : gd c x = some y) : ¬ c ∧ x = some y := by
  unfold gd at h
  by_cases hc : c
  · rw [if_pos hc] at h; cases h
  · rw [if_neg hc] at h; exact ⟨hc, h⟩
def gb {γ : Type} (v : Int32) (x : Option γ) : Option γ := if v = 0 ∨ v = 1 then x else none
theorem gb_some {γ : Type} {v : Int32} {x : Option γ} {y : γ} (h : gb v x = some y) : narrow .boolean (.int v) = .int v ∧ x = some y := by
  unfold gb at h
  by_cases hc : v = 0 ∨ v = 1
  · rw [if_pos hc] at h
    refine ⟨?_, h⟩
    rcases hc with rfl | rfl <;> rfl
  · rw [if_neg hc] at h; cases h
def bd {α γ : Type} (o : Option (α × St)) (f : α → St → Option γ) : Option γ := match o with
  | none => none
  | some q => f q.1 q.2
theorem bd_some {α γ : Type} {o : Option (α × St)} {f : α → St → Option γ} {y : γ} (h : bd o f = some y) : ∃ (a : α) (b : St), o = some (a, b) ∧ f a b = some y := by
  unfold bd at h
  cases o with
  | none => cases h
  | some q => exact ⟨q.1, q.2, rfl, h⟩
def bv {γ : Type} (o : Option St) (f : St → Option γ) : Option γ := match o with
  | none => none
  | some q => f q
theorem bv_some {γ : Type} {o : Option St} {f : St → Option γ} {y : γ} (h : bv o f = some y) : ∃ b : St, o = some b ∧ f b = some y := by
  unfold bv at h
  cases o with
  | none => cases h
  | some q => exact ⟨q, rfl, h⟩
theorem bd_ok {α γ : Type} {o : Option (α × St)} {f : α → St → Option γ} {a : α} {b : St} (h : o = some (a, b)) : bd o f = f a b := by rw [h]; rfl
theorem bv_ok {γ : Type} {o : Option St} {f : St → Option γ} {b : St} (h : o = some b) : bv o f = f b := by rw [h]; rfl
theorem gd_ok {γ : Type} {c : Prop} [Decidable c] {x : Option γ} (h : ¬ c) : gd c x = x := if_neg h
theorem x_in {i : Int32} {n : Nat} (h : decide (¬ (i < 0 ∨ n ≤ i.toNatClampNeg)) = true) : vp_in i n := by
  have h1 : ¬ (i < 0 ∨ n ≤ i.toNatClampNeg) := of_decide_eq_true h
  exact h1
theorem x_ne {x k : Int32} (h : ¬ x = k) : x.toInt ≠ k.toInt := fun e => h (Int32.toInt_inj.mp e)
abbrev QI (G : GG) (res : Int32 × St) : Array Value → State → Outcome → State → Prop := va_Qi (fun r u => r = res.1 ∧ u = res.2) (PB G) (AA G)
abbrev QL (G : GG) (res : Int64 × St) : Array Value → State → Outcome → State → Prop := va_Ql (fun r u => r = res.1 ∧ u = res.2) (PB G) (AA G)
abbrev QV (G : GG) (res : St) : Array Value → State → Outcome → State → Prop := va_Qv (fun u => u = res) (PB G) (AA G)
/-- at a cut -/
def WC (p : Program) (l : Launch) (e : Env) (d : Nat) (s : State) (m : MethodId) (args : Array Value) (below : List Frame) (meth : Method) (c : Code) (G : GG) (Qc : Array Value → State → Outcome → State → Prop) (nL pc : Nat) (lv : List (Nat × Value)) (st : List Value) (σ : St) : Prop :=
  ∀ (H : Heap) (locs : List Loc) (ls : Array Slot), Rp G σ H → va_S (AA G) s.heap H locs → lv_has ls nL lv → W p l e (rmD d) s m args below meth c H locs 0 0 (MQ below Qc args s 0 0 (AA G)) (F0 m pc ls st)
theorem pfI0_0 {G : GG} {σ : St} {k : Nat} {v : Int32} (h : kd k = 0) : cz G (pI σ k 0 v) k = .inr (0, (fs0 G σ k).set 0 (.int v)) := by rw [cz0 h]; simp [fs0, sI_pI, sL_pI]
theorem pfI0_1 {G : GG} {σ : St} {k : Nat} {v : Int32} (h : kd k = 0) : cz G (pI σ k 1 v) k = .inr (0, (fs0 G σ k).set 1 (.int v)) := by rw [cz0 h]; simp [fs0, sI_pI, sL_pI]
theorem pfI0_2 {G : GG} {σ : St} {k : Nat} {v : Int32} (h : kd k = 0) : cz G (pI σ k 2 v) k = .inr (0, (fs0 G σ k).set 2 (.int v)) := by rw [cz0 h]; simp [fs0, sI_pI, sL_pI]
theorem pfI0_3 {G : GG} {σ : St} {k : Nat} {v : Int32} (h : kd k = 0) : cz G (pI σ k 3 v) k = .inr (0, (fs0 G σ k).set 3 (.int v)) := by rw [cz0 h]; simp [fs0, sI_pI, sL_pI]
theorem pfI0_4 {G : GG} {σ : St} {k : Nat} {v : Int32} (h : kd k = 0) : cz G (pI σ k 4 v) k = .inr (0, (fs0 G σ k).set 4 (.int v)) := by rw [cz0 h]; simp [fs0, sI_pI, sL_pI]
theorem pfI0_5 {G : GG} {σ : St} {k : Nat} {v : Int32} (h : kd k = 0) : cz G (pI σ k 5 v) k = .inr (0, (fs0 G σ k).set 5 (.int v)) := by rw [cz0 h]; simp [fs0, sI_pI, sL_pI]
theorem pfI0_6 {G : GG} {σ : St} {k : Nat} {v : Int32} (h : kd k = 0) : cz G (pI σ k 6 v) k = .inr (0, (fs0 G σ k).set 6 (.int v)) := by rw [cz0 h]; simp [fs0, sI_pI, sL_pI]
theorem pfI2_0 {G : GG} {σ : St} {k : Nat} {v : Int32} (h : kd k = 2) : cz G (pI σ k 0 v) k = .inr (2, (fs2 G σ k).set 0 (.int v)) := by rw [cz2 h]; simp [fs2, sI_pI, sL_pI]
theorem pfI2_2 {G : GG} {σ : St} {k : Nat} {v : Int32} (h : kd k = 2) : cz G (pI σ k 2 v) k = .inr (2, (fs2 G σ k).set 2 (.int v)) := by rw [cz2 h]; simp [fs2, sI_pI, sL_pI]
theorem pfI2_3 {G : GG} {σ : St} {k : Nat} {v : Int32} (h : kd k = 2) : cz G (pI σ k 3 v) k = .inr (2, (fs2 G σ k).set 3 (.int v)) := by rw [cz2 h]; simp [fs2, sI_pI, sL_pI]
theorem pfI2_4 {G : GG} {σ : St} {k : Nat} {v : Int32} (h : kd k = 2) : cz G (pI σ k 4 v) k = .inr (2, (fs2 G σ k).set 4 (.int v)) := by rw [cz2 h]; simp [fs2, sI_pI, sL_pI]
theorem pfI3_0 {G : GG} {σ : St} {k : Nat} {v : Int32} (h : kd k = 3) : cz G (pI σ k 0 v) k = .inr (3, (fs3 G σ k).set 0 (.int v)) := by rw [cz3 h]; simp [fs3, sI_pI, sL_pI]
theorem pfI3_1 {G : GG} {σ : St} {k : Nat} {v : Int32} (h : kd k = 3) : cz G (pI σ k 1 v) k = .inr (3, (fs3 G σ k).set 1 (.int v)) := by rw [cz3 h]; simp [fs3, sI_pI, sL_pI]
theorem pfI3_2 {G : GG} {σ : St} {k : Nat} {v : Int32} (h : kd k = 3) : cz G (pI σ k 2 v) k = .inr (3, (fs3 G σ k).set 2 (.int v)) := by rw [cz3 h]; simp [fs3, sI_pI, sL_pI]
theorem pfI3_3 {G : GG} {σ : St} {k : Nat} {v : Int32} (h : kd k = 3) : cz G (pI σ k 3 v) k = .inr (3, (fs3 G σ k).set 3 (.int v)) := by rw [cz3 h]; simp [fs3, sI_pI, sL_pI]
theorem pfI3_4 {G : GG} {σ : St} {k : Nat} {v : Int32} (h : kd k = 3) : cz G (pI σ k 4 v) k = .inr (3, (fs3 G σ k).set 4 (.int v)) := by rw [cz3 h]; simp [fs3, sI_pI, sL_pI]
theorem pfI3_5 {G : GG} {σ : St} {k : Nat} {v : Int32} (h : kd k = 3) : cz G (pI σ k 5 v) k = .inr (3, (fs3 G σ k).set 5 (.int v)) := by rw [cz3 h]; simp [fs3, sI_pI, sL_pI]
theorem pfI3_6 {G : GG} {σ : St} {k : Nat} {v : Int32} (h : kd k = 3) : cz G (pI σ k 6 v) k = .inr (3, (fs3 G σ k).set 6 (.int v)) := by rw [cz3 h]; simp [fs3, sI_pI, sL_pI]
theorem pfI3_7 {G : GG} {σ : St} {k : Nat} {v : Int32} (h : kd k = 3) : cz G (pI σ k 7 v) k = .inr (3, (fs3 G σ k).set 7 (.int v)) := by rw [cz3 h]; simp [fs3, sI_pI, sL_pI]
theorem pfI3_8 {G : GG} {σ : St} {k : Nat} {v : Int32} (h : kd k = 3) : cz G (pI σ k 8 v) k = .inr (3, (fs3 G σ k).set 8 (.int v)) := by rw [cz3 h]; simp [fs3, sI_pI, sL_pI]
theorem pfI4_6 {G : GG} {σ : St} {k : Nat} {v : Int32} (h : kd k = 4) : cz G (pI σ k 6 v) k = .inr (4, (fs4 G σ k).set 6 (.int v)) := by rw [cz4 h]; simp [fs4, sI_pI, sL_pI]
theorem pfI4_7 {G : GG} {σ : St} {k : Nat} {v : Int32} (h : kd k = 4) : cz G (pI σ k 7 v) k = .inr (4, (fs4 G σ k).set 7 (.int v)) := by rw [cz4 h]; simp [fs4, sI_pI, sL_pI]
theorem pfI4_10 {G : GG} {σ : St} {k : Nat} {v : Int32} (h : kd k = 4) : cz G (pI σ k 10 v) k = .inr (4, (fs4 G σ k).set 10 (.int v)) := by rw [cz4 h]; simp [fs4, sI_pI, sL_pI]
theorem pfI4_11 {G : GG} {σ : St} {k : Nat} {v : Int32} (h : kd k = 4) : cz G (pI σ k 11 v) k = .inr (4, (fs4 G σ k).set 11 (.int v)) := by rw [cz4 h]; simp [fs4, sI_pI, sL_pI]
theorem pfI4_12 {G : GG} {σ : St} {k : Nat} {v : Int32} (h : kd k = 4) : cz G (pI σ k 12 v) k = .inr (4, (fs4 G σ k).set 12 (.int v)) := by rw [cz4 h]; simp [fs4, sI_pI, sL_pI]
theorem pfL4_8 {G : GG} {σ : St} {k : Nat} {v : Int64} (h : kd k = 4) : cz G (pL σ k 8 v) k = .inr (4, (fs4 G σ k).set 8 (.long v)) := by rw [cz4 h]; simp [fs4, sI_pL, sL_pL]
theorem pfL4_9 {G : GG} {σ : St} {k : Nat} {v : Int64} (h : kd k = 4) : cz G (pL σ k 9 v) k = .inr (4, (fs4 G σ k).set 9 (.long v)) := by rw [cz4 h]; simp [fs4, sI_pL, sL_pL]
theorem pfI5_12 {G : GG} {σ : St} {k : Nat} {v : Int32} (h : kd k = 5) : cz G (pI σ k 12 v) k = .inr (5, (fs5 G σ k).set 12 (.int v)) := by rw [cz5 h]; simp [fs5, sI_pI, sL_pI]
theorem pfI5_13 {G : GG} {σ : St} {k : Nat} {v : Int32} (h : kd k = 5) : cz G (pI σ k 13 v) k = .inr (5, (fs5 G σ k).set 13 (.int v)) := by rw [cz5 h]; simp [fs5, sI_pI, sL_pI]
theorem pfI5_15 {G : GG} {σ : St} {k : Nat} {v : Int32} (h : kd k = 5) : cz G (pI σ k 15 v) k = .inr (5, (fs5 G σ k).set 15 (.int v)) := by rw [cz5 h]; simp [fs5, sI_pI, sL_pI]
theorem pfI5_16 {G : GG} {σ : St} {k : Nat} {v : Int32} (h : kd k = 5) : cz G (pI σ k 16 v) k = .inr (5, (fs5 G σ k).set 16 (.int v)) := by rw [cz5 h]; simp [fs5, sI_pI, sL_pI]
theorem pfI5_17 {G : GG} {σ : St} {k : Nat} {v : Int32} (h : kd k = 5) : cz G (pI σ k 17 v) k = .inr (5, (fs5 G σ k).set 17 (.int v)) := by rw [cz5 h]; simp [fs5, sI_pI, sL_pI]
theorem pfI5_18 {G : GG} {σ : St} {k : Nat} {v : Int32} (h : kd k = 5) : cz G (pI σ k 18 v) k = .inr (5, (fs5 G σ k).set 18 (.int v)) := by rw [cz5 h]; simp [fs5, sI_pI, sL_pI]
theorem pfI5_19 {G : GG} {σ : St} {k : Nat} {v : Int32} (h : kd k = 5) : cz G (pI σ k 19 v) k = .inr (5, (fs5 G σ k).set 19 (.int v)) := by rw [cz5 h]; simp [fs5, sI_pI, sL_pI]
theorem pfL5_4 {G : GG} {σ : St} {k : Nat} {v : Int64} (h : kd k = 5) : cz G (pL σ k 4 v) k = .inr (5, (fs5 G σ k).set 4 (.long v)) := by rw [cz5 h]; simp [fs5, sI_pL, sL_pL]
theorem pfL5_5 {G : GG} {σ : St} {k : Nat} {v : Int64} (h : kd k = 5) : cz G (pL σ k 5 v) k = .inr (5, (fs5 G σ k).set 5 (.long v)) := by rw [cz5 h]; simp [fs5, sI_pL, sL_pL]
section XC
variable {p : Program} {l : Launch} {e : Env} {R : Room} {s : State} {m : MethodId} {args : Array Value} {below : List Frame} {meth : Method} {c : Code} {H : Heap} {locs : List Loc} {cells slots : Nat} {Q : State → Prop} {cc : ByteArray} {pc : Nat} {ls : Array Slot} {rest : List Value} {own : String} {Ts : List Cond} {ret : Option FieldType} {nL : Nat} {G : GG} {σ : St}
theorem x_get (C : Cx p s m args meth c cc own Ts ret nL G) (hR : Rp G σ H) {CC : String} {T : u_T} {N : Nat} (hin : ∀ w ∈ u_ws CC T N, w ∈ Ts) {ci : Nat} (k : Nat) (hk : k < 89) {fs : List Value} (he : cz G σ k = .inr (ci, fs)) (hc : vwCl[ci]? = some (CC, T, N)) (j : Nat) (hj : j < N) {index : Nat} (q : Nat) (hq : Ts[q]? = some (.fieldLink own index (T j).1 (T j).2.1 (T j).2.2.1)) (v : Value) (hv : fs[j]? = some v) (hdg : decode cc pc = .ok (.getfield index, 3))
    (kk : W p l e R s m args below meth c H locs cells slots Q (F0 m (pc + 3) ls (v :: rest))) : W p l e R s m args below meth c H locs cells slots Q (F0 m pc ls (.ref (G.2.1 k) :: rest)) :=
  va_get C.1 C.2.1 C.2.2.2.2.2.1 hin C.2.2.2.2.1 C.2.2.2.2.2.2.2.2.1.1 hR k ((iw_at hk).trans (by rw [he])) hc j hj (C.2.2.2.2.2.1 _ (List.mem_of_getElem? hq)) (fun _ h => h) hv hdg kk
theorem x_put {τ : St} (C : Cx p s m args meth c cc own Ts ret nL G) (hR : Rp G σ H) (hS : va_S (AA G) s.heap H locs) {CC : String} {T : u_T} {N : Nat} (hin : ∀ w ∈ u_ws CC T N, w ∈ Ts) (ty0 : Nat → FieldType) (hty : ∀ k, k < N → parseFieldDescriptor (T k).2.2.1 = some (ty0 k)) (hnm : ∀ a, a < N → ∀ b, b < N → a ≠ b → (T a).2.1 ≠ (T b).2.1) {ci : Nat} (k : Nat) (hk : k < 89) {fs : List Value} (he : cz G σ k = .inr (ci, fs)) (hc : vwCl[ci]? = some (CC, T, N)) (j : Nat) (hj : j < N) {v : Value} (he' : cz G τ k = .inr (ci, fs.set j v)) (ho : ∀ i, i ≠ k → cz G τ i = cz G σ i) {index : Nat} (q : Nat) (hq : Ts[q]? = some (.fieldLink own index (T j).1 (T j).2.1 (T j).2.2.1)) (hfin : (T j).2.2.2 = false) (hn : narrow (ty0 j) v = v) (hfit : fits (ty0 j) v = true) (hl : j < fs.length) (hdg : decode cc pc = .ok (.putfield index, 3))
    (kk : ∀ (H1 : Heap) (locs1 : List Loc), Rp G τ H1 → va_S (AA G) s.heap H1 locs1 → W p l e R s m args below meth c H1 locs1 cells slots Q (F0 m (pc + 3) ls rest)) : W p l e R s m args below meth c H locs cells slots Q (F0 m pc ls (v :: .ref (G.2.1 k) :: rest)) :=
  va_put C.1 C.2.1 C.2.2.2.2.2.1 hin ty0 hty hnm C.2.2.2.2.1 C.2.2.2.2.2.2.2.2.1.1 hR (wl_D C.2.2.2.2.2.2.2.1 σ) hS k ((iw_at hk).trans (by rw [he])) hc j hj (C.2.2.2.2.2.1 _ (List.mem_of_getElem? hq)) (fun _ h => h) hfin (hty j hj) hn hfit hl hdg (fun H1 locs1 hP _ hS1 => kk H1 locs1 (by
    have e : (wl G σ).set k (G.2.1 k, .inr (ci, fs.set j v)) = wl G τ := iw_set he' ho
    rw [e] at hP
    exact hP) hS1)
theorem pI_o {k j : Nat} {v : Int32} : ∀ i, i ≠ k → cz G (pI σ k j v) i = cz G σ i := fun i hi => cz_eq (fun b => by rw [sI_pI, if_neg (fun h => hi h.1)]) (fun b => rfl) (fun b => rfl)
theorem pL_o {k j : Nat} {v : Int64} : ∀ i, i ≠ k → cz G (pL σ k j v) i = cz G σ i := fun i hi => cz_eq (fun b => rfl) (fun b => by rw [sL_pL, if_neg (fun h => hi h.1)]) (fun b => rfl)
theorem pA_o {k j : Nat} {v : Int32} : ∀ i, i ≠ k → cz G (pA σ k j v) i = cz G σ i := fun i hi => cz_eq (fun b => rfl) (fun b => rfl) (fun b => by rw [sA_pA, if_neg (fun h => hi h.1)])
theorem x_iald (C : Cx p s m args meth c cc own Ts ret nL G) (hR : Rp G σ H) (k : Nat) (hk : kd k = 6) {i : Int32} (hin : vp_in i (ln k)) {n : Nat} (hn : i.toNatClampNeg = n) (v : Int32) (hv : sA σ k n = v) (hdg : decode cc pc = .ok (.iaload, 1))
    (kk : W p l e R s m args below meth c H locs cells slots Q (F0 m (pc + 1) ls (.int v :: rest))) : W p l e R s m args below meth c H locs cells slots Q (F0 m pc ls (.int i :: .ref (G.2.1 k) :: rest)) :=
  va_iald C.1 C.2.1 C.2.2.2.2.2.2.2.2.1.1 hR k 0 ((iw_at (kd_lt hk (by decide))).trans (by rw [cz6 hk])) rfl hin hdg (by rw [hn, hv]; exact kk)
theorem x_iast (C : Cx p s m args meth c cc own Ts ret nL G) (hR : Rp G σ H) (hS : va_S (AA G) s.heap H locs) (k : Nat) (hk : kd k = 6) {i x : Int32} (hin : vp_in i (ln k)) {n : Nat} (hn : i.toNatClampNeg = n) (hdg : decode cc pc = .ok (.iastore, 1))
    (kk : ∀ (H1 : Heap) (locs1 : List Loc), Rp G (pA σ k n x) H1 → va_S (AA G) s.heap H1 locs1 → W p l e R s m args below meth c H1 locs1 cells slots Q (F0 m (pc + 1) ls rest)) : W p l e R s m args below meth c H locs cells slots Q (F0 m pc ls (.int x :: .int i :: .ref (G.2.1 k) :: rest)) := by
  subst hn
  exact va_iast C.1 C.2.1 C.2.2.2.2.2.2.2.2.1.1 hR (wl_D C.2.2.2.2.2.2.2.1 σ) hS k 0 ((iw_at (kd_lt hk (by decide))).trans (by rw [cz6 hk])) rfl hin hdg (fun H1 locs1 hP _ hS1 => kk H1 locs1 (by
    have e : (wl G σ).set k (G.2.1 k, .inl (G.2.2.1, ln k, .inl (upd (sA σ k) i.toNatClampNeg x))) = wl G (pA σ k i.toNatClampNeg x) := iw_set (by
      rw [cz6 hk]
      have : sA (pA σ k i.toNatClampNeg x) k = upd (sA σ k) i.toNatClampNeg x := by
        funext b
        rw [sA_pA]
        unfold upd
        by_cases hb : b = i.toNatClampNeg
        · rw [if_pos ⟨rfl, hb⟩, if_pos hb]
        · rw [if_neg (fun h => hb h.2), if_neg hb]
      rw [this]) pA_o
    rw [e] at hP
    exact hP) hS1)
theorem x_zald (C : Cx p s m args meth c cc own Ts ret nL G) (hR : Rp G σ H) (k : Nat) (hk : kd k = 7) {i : Int32} (hin : vp_in i (ln k)) {n : Nat} (hn : i.toNatClampNeg = n) (v : Int32) (hv : sA σ k n = v) (hdg : decode cc pc = .ok (.baload, 1))
    (kk : W p l e R s m args below meth c H locs cells slots Q (F0 m (pc + 1) ls (.int v :: rest))) : W p l e R s m args below meth c H locs cells slots Q (F0 m pc ls (.int i :: .ref (G.2.1 k) :: rest)) :=
  va_zald C.1 C.2.1 C.2.2.2.2.2.2.2.2.1.1 hR k 1 ((iw_at (kd_lt hk (by decide))).trans (by rw [cz7 hk])) rfl hin hdg (by rw [hn, hv]; exact kk)
theorem x_zast (C : Cx p s m args meth c cc own Ts ret nL G) (hR : Rp G σ H) (hS : va_S (AA G) s.heap H locs) (k : Nat) (hk : kd k = 7) {i x : Int32} (hin : vp_in i (ln k)) {n : Nat} (hn : i.toNatClampNeg = n) (hx : vp_nar .boolean x = x) (hdg : decode cc pc = .ok (.bastore, 1))
    (kk : ∀ (H1 : Heap) (locs1 : List Loc), Rp G (pA σ k n x) H1 → va_S (AA G) s.heap H1 locs1 → W p l e R s m args below meth c H1 locs1 cells slots Q (F0 m (pc + 1) ls rest)) : W p l e R s m args below meth c H locs cells slots Q (F0 m pc ls (.int x :: .int i :: .ref (G.2.1 k) :: rest)) := by
  subst hn
  exact va_zast C.1 C.2.1 C.2.2.2.2.2.2.2.2.1.1 hR (wl_D C.2.2.2.2.2.2.2.1 σ) hS k 1 ((iw_at (kd_lt hk (by decide))).trans (by rw [cz7 hk])) rfl hin hdg (fun H1 locs1 hP _ hS1 => kk H1 locs1 (by
    have e : (wl G σ).set k (G.2.1 k, .inl (G.2.2.2.1, ln k, .inl (upd (sA σ k) i.toNatClampNeg (vp_nar .boolean x)))) = wl G (pA σ k i.toNatClampNeg x) := iw_set (by
      rw [cz7 hk, hx]
      have : sA (pA σ k i.toNatClampNeg x) k = upd (sA σ k) i.toNatClampNeg x := by
        funext b
        rw [sA_pA]
        unfold upd
        by_cases hb : b = i.toNatClampNeg
        · rw [if_pos ⟨rfl, hb⟩, if_pos hb]
        · rw [if_neg (fun h => hb h.2), if_neg hb]
      rw [this]) pA_o
    rw [e] at hP
    exact hP) hS1)
theorem x_alen (C : Cx p s m args meth c cc own Ts ret nL G) (hR : Rp G σ H) (k : Nat) (hk : kd k = 6) {v : Int32} (hv : Int32.ofNat (ln k) = v) (hdg : decode cc pc = .ok (.arraylength, 1))
    (kk : W p l e R s m args below meth c H locs cells slots Q (F0 m (pc + 1) ls (.int v :: rest))) : W p l e R s m args below meth c H locs cells slots Q (F0 m pc ls (.ref (G.2.1 k) :: rest)) :=
  va_alen C.1 C.2.1 C.2.2.2.2.2.2.2.2.1.1 hR k 0 ((iw_at (kd_lt hk (by decide))).trans (by rw [cz6 hk])) rfl hv hdg kk
/-- ends -/
theorem x_iret {Qf : Int32 → St → Prop} {v : Int32} (C : Cx p s m args meth c cc own Ts (some .int) nL G) (hR : Rp G σ H) (hS : va_S (AA G) s.heap H locs) (hdg : decode cc pc = .ok (.ireturn, 1)) (hq : Qf v σ) : W p l e R s m args below meth c H locs 0 0 (MQ below (va_Qi Qf (PB G) (AA G)) args s 0 0 (AA G)) (F0 m pc ls [.int v]) :=
  W.iret C.1 C.2.1 C.2.2.1 (fun t ht _ => ⟨⟨v, σ, rfl, hq, by show Rp G σ t.heap; rw [ht]; exact hR⟩, hS.F ht⟩) hS.2.2 hdg C.2.2.2.2.2.2.1
theorem x_zret {Qf : Int32 → St → Prop} {v : Int32} (C : Cx p s m args meth c cc own Ts (some .boolean) nL G) (hR : Rp G σ H) (hS : va_S (AA G) s.heap H locs) (hdg : decode cc pc = .ok (.ireturn, 1)) (hn : narrow .boolean (.int v) = .int v) (hq : Qf v σ) : W p l e R s m args below meth c H locs 0 0 (MQ below (va_Qi Qf (PB G) (AA G)) args s 0 0 (AA G)) (F0 m pc ls [.int v]) :=
  W.zret C.1 C.2.1 C.2.2.1 hn (fun t ht _ => ⟨⟨v, σ, rfl, hq, by show Rp G σ t.heap; rw [ht]; exact hR⟩, hS.F ht⟩) hS.2.2 hdg C.2.2.2.2.2.2.1
theorem x_lret {Qf : Int64 → St → Prop} {v : Int64} (C : Cx p s m args meth c cc own Ts (some .long) nL G) (hR : Rp G σ H) (hS : va_S (AA G) s.heap H locs) (hdg : decode cc pc = .ok (.lreturn, 1)) (hq : Qf v σ) : W p l e R s m args below meth c H locs 0 0 (MQ below (va_Ql Qf (PB G) (AA G)) args s 0 0 (AA G)) (F0 m pc ls [.long v]) :=
  W.lret C.1 C.2.1 C.2.2.1 (fun t ht _ => ⟨⟨v, σ, rfl, hq, by show Rp G σ t.heap; rw [ht]; exact hR⟩, hS.F ht⟩) hS.2.2 hdg C.2.2.2.2.2.2.1
theorem x_vret {Qf : St → Prop} (C : Cx p s m args meth c cc own Ts none nL G) (hR : Rp G σ H) (hS : va_S (AA G) s.heap H locs) (hdg : decode cc pc = .ok (.return_, 1)) (hq : Qf σ) : W p l e R s m args below meth c H locs 0 0 (MQ below (va_Qv Qf (PB G) (AA G)) args s 0 0 (AA G)) (F0 m pc ls []) :=
  W.vret C.1 C.2.1 C.2.2.1 (fun t ht _ => ⟨⟨σ, rfl, hq, by show Rp G σ t.heap; rw [ht]; exact hR⟩, hS.F ht⟩) hS.2.2 hdg C.2.2.2.2.2.2.1
/-- a method's start -/
theorem x_ent {y : MethodName} {ws ws' : List Cond} {d : Nat} {av : List Value} {Qc : Array Value → State → Outcome → State → Prop} (cc : ByteArray) (maxL : Nat) (hy : plainName y.cls = true) (hw : ws = Cond.code y cc maxL ret :: ws') (ha : (lg_sl av).length ≤ maxL)
    (body : ∀ (p : Program) (e : Env) (s : State) (m : MethodId) (below : List Frame) (meth : Method) (c : Code) (ls : Array Slot), Cx p s m av.toArray meth c cc y.cls ws ret maxL G → Rp G σ s.heap → va_S (AA G) s.heap s.heap [] → lv_has ls maxL (lv_args 0 av) → W p l e (rmD d) s m av.toArray below meth c s.heap [] 0 0 (MQ below Qc av.toArray s 0 0 (AA G)) (F0 m 0 ls [])) : Met l y ws (rmD d) (va_Pc av (Pr G σ)) Qc 0 0 (AA G) := by
  refine Met.ofW (cc := cc) (maxL := maxL) (ret := ret) hy hw ?_
  intro p e s m args below meth c s₁ B hml hv
  obtain ⟨rfl, hI, hP, hK, hZ⟩ := hv
  rw [lg_entry_eq]
  exact body p e s m below meth c _ ⟨B.exec, B.bytes, B.returns, hml, findClass_of_methodNamed B.named, atoms_spec (ws := ws) B.pre, B.notSynchronized, hI, hK, hZ⟩ hP va_S.rf (lv_entry av ha)
variable {y : MethodName} {bytes : ByteArray} {maxL n index d : Nat} {rt : Option FieldType} {ws ws' : List Cond} {As : List Value} {st0 : List Value} {τ : St}
theorem x_cvI {Qf : Int32 → St → Prop} {ci k : Nat} {fs : List Value} {CC : String} {T : u_T} {N : Nat} (C : Cx p s m args meth c cc own Ts ret nL G) (hl : ls.size = nL) (hR : Rp G σ H) (hS : va_S (AA G) s.heap H locs) (hM : CI l y ws d (.ref (G.2.1 k) :: As) G σ Qf) (hG : GoodIn Ts (wsV own index CC y ws)) (hw : ws = Cond.code y bytes maxL rt :: ws') (hd : y.cls = CC ∧ y.cls ≠ "java/lang/invoke/MethodHandle" ∧ y.cls ≠ "java/lang/invoke/VarHandle" ∧ (parseMethodDescriptor y.desc).map (fun d => d.parameters.length) = some n) (hr : d + 1 ≤ R.frames ∧ 8 + (maxL + 11) + 36 * d ≤ R.locals) (hk : k < 89) (he : cz G σ k = .inr (ci, fs)) (hc : vwCl[ci]? = some (CC, T, N)) (hn : As.length = n) (hst : st0 = As.reverse ++ .ref (G.2.1 k) :: rest) (hW : (rest.map fun v => v.category).sum ≤ 8) (hcs : cells ≤ R.cells ∧ slots ≤ R.slots) (hdg : decode cc pc = .ok (.invokevirtual index, 3))
    (kk : ∀ (r : Int32) (u : St) (H1 : Heap) (locs1 : List Loc), Qf r u → Rp G u H1 → va_S (AA G) s.heap H1 locs1 → W p l e R s m args below meth c H1 locs1 cells slots Q (F0 m (pc + 3) ls (.int r :: rest))) : W p l e R s m args below meth c H locs cells slots Q (F0 m pc ls st0) := by
  obtain ⟨hx, hb, hrr, hml, hown, hts, hlk, hI, hK, hZ⟩ := C
  exact va_calli (va_runV (As := As) (rest := rest) ⟨hx, hb, hml, hown, hts⟩ hM (cwV n hts hG hw rfl rfl hd hr) ⟨Pr_blind G σ _, va_recv hK.1 hR hc ((iw_at hk).trans (by rw [he])), fun U hU hWm => ⟨rfl, hI, by rw [hU]; exact hR, hK.warm hWm, by rw [hU]; exact (hZ.kept hS.2.1).moved hWm.alike⟩⟩ rfl hn hl hst (lv_room hW) hdg hcs) hS (fun q _ h => h) (fun q h => h) (fun r u t H1 locs1 ht hvm hq hB hz hk1 hS1 => kk r u H1 locs1 hq (by rw [← ht]; exact hB) hS1)
theorem x_cvL {Qf : Int64 → St → Prop} {ci k : Nat} {fs : List Value} {CC : String} {T : u_T} {N : Nat} (C : Cx p s m args meth c cc own Ts ret nL G) (hl : ls.size = nL) (hR : Rp G σ H) (hS : va_S (AA G) s.heap H locs) (hM : CL l y ws d (.ref (G.2.1 k) :: As) G σ Qf) (hG : GoodIn Ts (wsV own index CC y ws)) (hw : ws = Cond.code y bytes maxL rt :: ws') (hd : y.cls = CC ∧ y.cls ≠ "java/lang/invoke/MethodHandle" ∧ y.cls ≠ "java/lang/invoke/VarHandle" ∧ (parseMethodDescriptor y.desc).map (fun d => d.parameters.length) = some n) (hr : d + 1 ≤ R.frames ∧ 8 + (maxL + 11) + 36 * d ≤ R.locals) (hk : k < 89) (he : cz G σ k = .inr (ci, fs)) (hc : vwCl[ci]? = some (CC, T, N)) (hn : As.length = n) (hst : st0 = As.reverse ++ .ref (G.2.1 k) :: rest) (hW : (rest.map fun v => v.category).sum ≤ 8) (hcs : cells ≤ R.cells ∧ slots ≤ R.slots) (hdg : decode cc pc = .ok (.invokevirtual index, 3))
    (kk : ∀ (r : Int64) (u : St) (H1 : Heap) (locs1 : List Loc), Qf r u → Rp G u H1 → va_S (AA G) s.heap H1 locs1 → W p l e R s m args below meth c H1 locs1 cells slots Q (F0 m (pc + 3) ls (.long r :: rest))) : W p l e R s m args below meth c H locs cells slots Q (F0 m pc ls st0) := by
  obtain ⟨hx, hb, hrr, hml, hown, hts, hlk, hI, hK, hZ⟩ := C
  exact va_calll (va_runV (As := As) (rest := rest) ⟨hx, hb, hml, hown, hts⟩ hM (cwV n hts hG hw rfl rfl hd hr) ⟨Pr_blind G σ _, va_recv hK.1 hR hc ((iw_at hk).trans (by rw [he])), fun U hU hWm => ⟨rfl, hI, by rw [hU]; exact hR, hK.warm hWm, by rw [hU]; exact (hZ.kept hS.2.1).moved hWm.alike⟩⟩ rfl hn hl hst (lv_room hW) hdg hcs) hS (fun q _ h => h) (fun q h => h) (fun r u t H1 locs1 ht hvm hq hB hz hk1 hS1 => kk r u H1 locs1 hq (by rw [← ht]; exact hB) hS1)
theorem x_cvV {Qf : St → Prop} {ci k : Nat} {fs : List Value} {CC : String} {T : u_T} {N : Nat} (C : Cx p s m args meth c cc own Ts ret nL G) (hl : ls.size = nL) (hR : Rp G σ H) (hS : va_S (AA G) s.heap H locs) (hM : CV l y ws d (.ref (G.2.1 k) :: As) G σ Qf) (hG : GoodIn Ts (wsV own index CC y ws)) (hw : ws = Cond.code y bytes maxL rt :: ws') (hd : y.cls = CC ∧ y.cls ≠ "java/lang/invoke/MethodHandle" ∧ y.cls ≠ "java/lang/invoke/VarHandle" ∧ (parseMethodDescriptor y.desc).map (fun d => d.parameters.length) = some n) (hr : d + 1 ≤ R.frames ∧ 8 + (maxL + 11) + 36 * d ≤ R.locals) (hk : k < 89) (he : cz G σ k = .inr (ci, fs)) (hc : vwCl[ci]? = some (CC, T, N)) (hn : As.length = n) (hst : st0 = As.reverse ++ .ref (G.2.1 k) :: rest) (hW : (rest.map fun v => v.category).sum ≤ 8) (hcs : cells ≤ R.cells ∧ slots ≤ R.slots) (hdg : decode cc pc = .ok (.invokevirtual index, 3))
    (kk : ∀ (u : St) (H1 : Heap) (locs1 : List Loc), Qf u → Rp G u H1 → va_S (AA G) s.heap H1 locs1 → W p l e R s m args below meth c H1 locs1 cells slots Q (F0 m (pc + 3) ls rest)) : W p l e R s m args below meth c H locs cells slots Q (F0 m pc ls st0) := by
  obtain ⟨hx, hb, hrr, hml, hown, hts, hlk, hI, hK, hZ⟩ := C
  exact va_callv (va_runV (As := As) (rest := rest) ⟨hx, hb, hml, hown, hts⟩ hM (cwV n hts hG hw rfl rfl hd hr) ⟨Pr_blind G σ _, va_recv hK.1 hR hc ((iw_at hk).trans (by rw [he])), fun U hU hWm => ⟨rfl, hI, by rw [hU]; exact hR, hK.warm hWm, by rw [hU]; exact (hZ.kept hS.2.1).moved hWm.alike⟩⟩ rfl hn hl hst (lv_room hW) hdg hcs) hS (fun q _ h => h) (fun q h => h) (fun u t H1 locs1 ht hvm hq hB hz hk1 hS1 => kk u H1 locs1 hq (by rw [← ht]; exact hB) hS1)
theorem x_csI {Qf : Int32 → St → Prop} (C : Cx p s m args meth c cc own Ts ret nL G) (hl : ls.size = nL) (hR : Rp G σ H) (hS : va_S (AA G) s.heap H locs) (hM : CI l y ws d As G σ Qf) (hG : GoodIn Ts (va_wsS own index y ws)) (hw : ws = Cond.code y bytes maxL rt :: ws') (hd : y.cls ≠ "java/lang/invoke/MethodHandle" ∧ y.cls ≠ "java/lang/invoke/VarHandle" ∧ (parseMethodDescriptor y.desc).map (fun d => d.parameters.length) = some n) (hr : d + 1 ≤ R.frames ∧ 8 + (maxL + 11) + 36 * d ≤ R.locals) (hn : As.length = n) (hst : st0 = As.reverse ++ rest) (hW : (rest.map fun v => v.category).sum ≤ 8) (hcs : cells ≤ R.cells ∧ slots ≤ R.slots) (hdg : decode cc pc = .ok (.invokestatic index, 3))
    (kk : ∀ (r : Int32) (u : St) (H1 : Heap) (locs1 : List Loc), Qf r u → Rp G u H1 → va_S (AA G) s.heap H1 locs1 → W p l e R s m args below meth c H1 locs1 cells slots Q (F0 m (pc + 3) ls (.int r :: rest))) : W p l e R s m args below meth c H locs cells slots Q (F0 m pc ls st0) := by
  obtain ⟨hx, hb, hrr, hml, hown, hts, hlk, hI, hK, hZ⟩ := C
  exact va_calli (va_runS (As := As) (rest := rest) ⟨hx, hb, hml, hown, hts⟩ hM (va_cwS n hts hG hw rfl rfl hd hr) ⟨Pr_blind G σ _, fun U hU hWm => ⟨rfl, hI, by rw [hU]; exact hR, hK.warm hWm, by rw [hU]; exact (hZ.kept hS.2.1).moved hWm.alike⟩⟩ rfl hn hl hst (lv_room hW) hdg hcs) hS (fun q _ h => h) (fun q h => h) (fun r u t H1 locs1 ht hvm hq hB hz hk1 hS1 => kk r u H1 locs1 hq (by rw [← ht]; exact hB) hS1)
theorem x_nsI {Qf : Int32 → St → Prop} (C : Cx p s m args meth c cc own Ts ret nL G) (hl : ls.size = nL) (hR : Rp G σ H) (hS : va_S (AA G) s.heap H locs) (hM : CI l y ws d As G σ Qf) (hG : GoodIn Ts ws) {host : String} (hN : va_Nw (.methodLinkNest own index y host) s) (q1 q2 : Nat) (h1 : Ts[q1]? = some (.initialized y.cls)) (h2 : Ts[q2]? = some (.static y)) (hw : ws = Cond.code y bytes maxL rt :: ws') (hd : y.cls ≠ "java/lang/invoke/MethodHandle" ∧ y.cls ≠ "java/lang/invoke/VarHandle" ∧ (parseMethodDescriptor y.desc).map (fun d => d.parameters.length) = some n) (hr : d + 1 ≤ R.frames ∧ 8 + (maxL + 11) + 36 * d ≤ R.locals) (hn : As.length = n) (hst : st0 = As.reverse ++ rest) (hW : (rest.map fun v => v.category).sum ≤ 8) (hcs : cells ≤ R.cells ∧ slots ≤ R.slots) (hdg : decode cc pc = .ok (.invokestatic index, 3))
    (kk : ∀ (r : Int32) (u : St) (H1 : Heap) (locs1 : List Loc), Qf r u → Rp G u H1 → va_S (AA G) s.heap H1 locs1 → W p l e R s m args below meth c H1 locs1 cells slots Q (F0 m (pc + 3) ls (.int r :: rest))) : W p l e R s m args below meth c H locs cells slots Q (F0 m pc ls st0) := by
  obtain ⟨hx, hb, hrr, hml, hown, hts, hlk, hI, hK, hZ⟩ := C
  exact va_calli (va_runSN (As := As) (rest := rest) ⟨hx, hb, hml, hown, hts⟩ hM ⟨va_cnB n hts hG hw rfl rfl hN (hts _ (List.mem_of_getElem? h1)) hd hr, hts _ (List.mem_of_getElem? h2), trivial⟩ ⟨Pr_blind G σ _, fun U hU hWm => ⟨rfl, hI, by rw [hU]; exact hR, hK.warm hWm, by rw [hU]; exact (hZ.kept hS.2.1).moved hWm.alike⟩⟩ rfl hn hl hst (lv_room hW) hdg hcs) hS (fun q _ h => h) (fun q h => h) (fun r u t H1 locs1 ht hvm hq hB hz hk1 hS1 => kk r u H1 locs1 hq (by rw [← ht]; exact hB) hS1)
theorem x_csL {Qf : Int64 → St → Prop} (C : Cx p s m args meth c cc own Ts ret nL G) (hl : ls.size = nL) (hR : Rp G σ H) (hS : va_S (AA G) s.heap H locs) (hM : CL l y ws d As G σ Qf) (hG : GoodIn Ts (va_wsS own index y ws)) (hw : ws = Cond.code y bytes maxL rt :: ws') (hd : y.cls ≠ "java/lang/invoke/MethodHandle" ∧ y.cls ≠ "java/lang/invoke/VarHandle" ∧ (parseMethodDescriptor y.desc).map (fun d => d.parameters.length) = some n) (hr : d + 1 ≤ R.frames ∧ 8 + (maxL + 11) + 36 * d ≤ R.locals) (hn : As.length = n) (hst : st0 = As.reverse ++ rest) (hW : (rest.map fun v => v.category).sum ≤ 8) (hcs : cells ≤ R.cells ∧ slots ≤ R.slots) (hdg : decode cc pc = .ok (.invokestatic index, 3))
    (kk : ∀ (r : Int64) (u : St) (H1 : Heap) (locs1 : List Loc), Qf r u → Rp G u H1 → va_S (AA G) s.heap H1 locs1 → W p l e R s m args below meth c H1 locs1 cells slots Q (F0 m (pc + 3) ls (.long r :: rest))) : W p l e R s m args below meth c H locs cells slots Q (F0 m pc ls st0) := by
  obtain ⟨hx, hb, hrr, hml, hown, hts, hlk, hI, hK, hZ⟩ := C
  exact va_calll (va_runS (As := As) (rest := rest) ⟨hx, hb, hml, hown, hts⟩ hM (va_cwS n hts hG hw rfl rfl hd hr) ⟨Pr_blind G σ _, fun U hU hWm => ⟨rfl, hI, by rw [hU]; exact hR, hK.warm hWm, by rw [hU]; exact (hZ.kept hS.2.1).moved hWm.alike⟩⟩ rfl hn hl hst (lv_room hW) hdg hcs) hS (fun q _ h => h) (fun q h => h) (fun r u t H1 locs1 ht hvm hq hB hz hk1 hS1 => kk r u H1 locs1 hq (by rw [← ht]; exact hB) hS1)
theorem x_csV {Qf : St → Prop} (C : Cx p s m args meth c cc own Ts ret nL G) (hl : ls.size = nL) (hR : Rp G σ H) (hS : va_S (AA G) s.heap H locs) (hM : CV l y ws d As G σ Qf) (hG : GoodIn Ts (va_wsS own index y ws)) (hw : ws = Cond.code y bytes maxL rt :: ws') (hd : y.cls ≠ "java/lang/invoke/MethodHandle" ∧ y.cls ≠ "java/lang/invoke/VarHandle" ∧ (parseMethodDescriptor y.desc).map (fun d => d.parameters.length) = some n) (hr : d + 1 ≤ R.frames ∧ 8 + (maxL + 11) + 36 * d ≤ R.locals) (hn : As.length = n) (hst : st0 = As.reverse ++ rest) (hW : (rest.map fun v => v.category).sum ≤ 8) (hcs : cells ≤ R.cells ∧ slots ≤ R.slots) (hdg : decode cc pc = .ok (.invokestatic index, 3))
    (kk : ∀ (u : St) (H1 : Heap) (locs1 : List Loc), Qf u → Rp G u H1 → va_S (AA G) s.heap H1 locs1 → W p l e R s m args below meth c H1 locs1 cells slots Q (F0 m (pc + 3) ls rest)) : W p l e R s m args below meth c H locs cells slots Q (F0 m pc ls st0) := by
  obtain ⟨hx, hb, hrr, hml, hown, hts, hlk, hI, hK, hZ⟩ := C
  exact va_callv (va_runS (As := As) (rest := rest) ⟨hx, hb, hml, hown, hts⟩ hM (va_cwS n hts hG hw rfl rfl hd hr) ⟨Pr_blind G σ _, fun U hU hWm => ⟨rfl, hI, by rw [hU]; exact hR, hK.warm hWm, by rw [hU]; exact (hZ.kept hS.2.1).moved hWm.alike⟩⟩ rfl hn hl hst (lv_room hW) hdg hcs) hS (fun q _ h => h) (fun q h => h) (fun u t H1 locs1 ht hvm hq hB hz hk1 hS1 => kk u H1 locs1 hq (by rw [← ht]; exact hB) hS1)
theorem x_tbl {dflt lo hi : Int} {offs : Array Int} {len : Nat} {x k : Int32} {off : Int} {tgt : Nat} (hx : p.tables.exec = Jvm.exec) (hb : c.code = cc) (h : x = k) (hdg : decode cc pc = .ok (.tableswitch dflt lo hi offs, len)) (h1 : ¬ k.toInt < lo) (h2 : ¬ hi < k.toInt) (ho : offs[(k.toInt - lo).toNat]? = some off) (ht : (pc : Int) + off = (tgt : Int))
    (kk : W p l e R s m args below meth c H locs cells slots Q (F0 m tgt ls rest)) : W p l e R s m args below meth c H locs cells slots Q (F0 m pc ls (.int x :: rest)) := by
  subst h
  exact lv_tableIn hx hb hdg h1 h2 ho ht kk
end XC
