theorem hdS_X6_in : yX6_in.cls ≠ "java/lang/invoke/MethodHandle" ∧ yX6_in.cls ≠ "java/lang/invoke/VarHandle" ∧ (parseMethodDescriptor yX6_in.desc).map (fun d => d.parameters.length) = some 3 := by decide +kernel
def f_X6_in (x0 : Int64) (x2 : Int64) (x4 : Int64) (σ : St) : Option (Int32 × St) :=
  (if (lg_cmp x0 x2) < 0 then some (0, σ) else (if 0 < (lg_cmp x0 x4) then some (0, σ) else some (1, σ)))
set_option maxHeartbeats 4000000 in
set_option maxRecDepth 100000 in
theorem c_X6_in (l : Launch) (G : GG) (x0 : Int64) (x2 : Int64) (x4 : Int64) (σ : St) (res : Int32 × St) (hf : f_X6_in x0 x2 x4 σ = some res) : CI l yX6_in wsX6_in 0 [.long x0, .long x2, .long x4] G σ (fun r u => r = res.1 ∧ u = res.2) := by
  refine x_ent (ret := (some .boolean)) cX6_in 6 (by decide) rfl (Nat.le_of_ble_eq_true rfl) ?_
  intro p e s m below meth c ls C hR hS hl
  have C : Cx p s m [.long x0, .long x2, .long x4].toArray meth c cX6_in RX6 wsX6_in (some .boolean) 6 G := C
  have hx := C.1
  have hb := C.2.1
  have hl : lv_has ls 6 [(0, .long x0), (2, .long x2), (4, .long x4)] := hl
  unfold f_X6_in at hf
  refine lv_lload_n hx hb dX6_in_0 rfl (lv_at hl 0 rfl) ?_
  refine lv_lload_n hx hb dX6_in_1 rfl (lv_at hl 1 rfl) ?_
  refine W.lcmp hx hb dX6_in_2 ?_
  refine lv_if_lt (tgt := 17) hx hb dX6_in_3 (by decide) (fun c_3 => ?_) (fun c_3 => ?_)
  · replace hf := (if_pos c_3).symm.trans hf
    refine lv_iconst (v := 0) hx hb dX6_in_17 (by decide) ?_
    obtain rfl := Option.some.inj hf
    exact x_zret C hR hS dX6_in_18 (by first | rfl | decide | (simp only []; split <;> rfl)) ⟨rfl, rfl⟩
  · replace hf := (if_neg c_3).symm.trans hf
    refine lv_lload_n hx hb dX6_in_6 rfl (lv_at hl 0 rfl) ?_
    refine lv_lload hx hb dX6_in_7 (lv_at hl 2 rfl) ?_
    refine W.lcmp hx hb dX6_in_9 ?_
    refine lv_if_gt (tgt := 17) hx hb dX6_in_10 (by decide) (fun c_10 => ?_) (fun c_10 => ?_)
    · replace hf := (if_pos c_10).symm.trans hf
      refine lv_iconst (v := 0) hx hb dX6_in_17 (by decide) ?_
      obtain rfl := Option.some.inj hf
      exact x_zret C hR hS dX6_in_18 (by first | rfl | decide | (simp only []; split <;> rfl)) ⟨rfl, rfl⟩
    · replace hf := (if_neg c_10).symm.trans hf
      refine lv_iconst (v := 1) hx hb dX6_in_13 (by decide) ?_
      refine lv_goto (tgt := 18) hx hb dX6_in_14 (by decide) ?_
      obtain rfl := Option.some.inj hf
      exact x_zret C hR hS dX6_in_18 (by first | rfl | decide | (simp only []; split <;> rfl)) ⟨rfl, rfl⟩
theorem hdV_X6_bad : yX6_bad.cls = RX6 ∧ yX6_bad.cls ≠ "java/lang/invoke/MethodHandle" ∧ yX6_bad.cls ≠ "java/lang/invoke/VarHandle" ∧ (parseMethodDescriptor yX6_bad.desc).map (fun d => d.parameters.length) = some 1 := by decide +kernel
def f_X6_bad (x1 : Int32) (σ : St) : Option (Int32 × St) :=
  some (x1, (pA σ 79 0 ((sA σ 79 0) + 1)))
set_option maxHeartbeats 4000000 in
set_option maxRecDepth 100000 in
theorem c_X6_bad (l : Launch) (G : GG) (x1 : Int32) (σ : St) (res : Int32 × St) (hf : f_X6_bad x1 σ = some res) : CI l yX6_bad wsX6_bad 0 [.ref (G.2.1 75), .int x1] G σ (fun r u => r = res.1 ∧ u = res.2) := by
  refine x_ent (ret := (some .int)) cX6_bad 2 (by decide) rfl (Nat.le_of_ble_eq_true rfl) ?_
  intro p e s m below meth c ls C hR hS hl
  have C : Cx p s m [.ref (G.2.1 75), .int x1].toArray meth c cX6_bad RX6 wsX6_bad (some .int) 2 G := C
  have hx := C.1
  have hb := C.2.1
  have hl : lv_has ls 2 [(0, .ref (G.2.1 75)), (1, .int x1)] := hl
  have inX6 : ∀ w ∈ u_ws RX6 TX6 22, w ∈ wsX6_bad := fun w h => List.mem_cons_of_mem _ (List.mem_append_right _ h)
  unfold f_X6_bad at hf
  refine lv_aload_n hx hb dX6_bad_0 rfl (lv_at hl 0 rfl) ?_
  refine x_get C hR inX6 75 (by decide) (cz5 rfl) rfl 3 (by decide) 1 rfl (.ref (G.2.1 79)) rfl dX6_bad_1 ?_
  refine lv_iconst (v := 0) hx hb dX6_bad_4 (by decide) ?_
  refine lv_dup2_11 hx hb dX6_bad_5 rfl rfl ?_
  refine x_iald C hR 79 rfl (x_in rfl) (n := 0) rfl (sA σ 79 0) rfl dX6_bad_6 ?_
  refine lv_iconst (v := 1) hx hb dX6_bad_7 (by decide) ?_
  refine lv_iadd hx hb dX6_bad_8 ?_
  refine x_iast C hR hS 79 rfl (x_in rfl) (n := 0) rfl dX6_bad_9 (fun H locs hR hS => ?_)
  refine lv_iload_n hx hb dX6_bad_10 rfl (lv_at hl 1 rfl) ?_
  obtain rfl := Option.some.inj hf
  exact x_iret C hR hS dX6_bad_11 ⟨rfl, rfl⟩
theorem hdV_X6_no : yX6_no.cls = RX6 ∧ yX6_no.cls ≠ "java/lang/invoke/MethodHandle" ∧ yX6_no.cls ≠ "java/lang/invoke/VarHandle" ∧ (parseMethodDescriptor yX6_no.desc).map (fun d => d.parameters.length) = some 0 := by decide +kernel
def f_X6_no (σ : St) : Option (Int32 × St) :=
  some ((-3), (pA σ 79 1 ((sA σ 79 1) + 1)))
set_option maxHeartbeats 4000000 in
set_option maxRecDepth 100000 in
theorem c_X6_no (l : Launch) (G : GG) (σ : St) (res : Int32 × St) (hf : f_X6_no σ = some res) : CI l yX6_no wsX6_no 0 [.ref (G.2.1 75)] G σ (fun r u => r = res.1 ∧ u = res.2) := by
  refine x_ent (ret := (some .int)) cX6_no 1 (by decide) rfl (Nat.le_of_ble_eq_true rfl) ?_
  intro p e s m below meth c ls C hR hS hl
  have C : Cx p s m [.ref (G.2.1 75)].toArray meth c cX6_no RX6 wsX6_no (some .int) 1 G := C
  have hx := C.1
  have hb := C.2.1
  have hl : lv_has ls 1 [(0, .ref (G.2.1 75))] := hl
  have inX6 : ∀ w ∈ u_ws RX6 TX6 22, w ∈ wsX6_no := fun w h => List.mem_cons_of_mem _ (List.mem_append_right _ h)
  unfold f_X6_no at hf
  refine lv_aload_n hx hb dX6_no_0 rfl (lv_at hl 0 rfl) ?_
  refine x_get C hR inX6 75 (by decide) (cz5 rfl) rfl 3 (by decide) 1 rfl (.ref (G.2.1 79)) rfl dX6_no_1 ?_
  refine lv_iconst (v := 1) hx hb dX6_no_4 (by decide) ?_
  refine lv_dup2_11 hx hb dX6_no_5 rfl rfl ?_
  refine x_iald C hR 79 rfl (x_in rfl) (n := 1) rfl (sA σ 79 1) rfl dX6_no_6 ?_
  refine lv_iconst (v := 1) hx hb dX6_no_7 (by decide) ?_
  refine lv_iadd hx hb dX6_no_8 ?_
  refine x_iast C hR hS 79 rfl (x_in rfl) (n := 1) rfl dX6_no_9 (fun H locs hR hS => ?_)
  refine lv_bipush (v := (-3)) hx hb dX6_no_10 (by decide) ?_
  obtain rfl := Option.some.inj hf
  exact x_iret C hR hS dX6_no_12 ⟨rfl, rfl⟩
theorem hdV_X6_full : yX6_full.cls = RX6 ∧ yX6_full.cls ≠ "java/lang/invoke/MethodHandle" ∧ yX6_full.cls ≠ "java/lang/invoke/VarHandle" ∧ (parseMethodDescriptor yX6_full.desc).map (fun d => d.parameters.length) = some 0 := by decide +kernel
def f_X6_full (σ : St) : Option (Int32 × St) :=
  some ((-4), (pA σ 79 2 ((sA σ 79 2) + 1)))
set_option maxHeartbeats 4000000 in
set_option maxRecDepth 100000 in
theorem c_X6_full (l : Launch) (G : GG) (σ : St) (res : Int32 × St) (hf : f_X6_full σ = some res) : CI l yX6_full wsX6_full 0 [.ref (G.2.1 75)] G σ (fun r u => r = res.1 ∧ u = res.2) := by
  refine x_ent (ret := (some .int)) cX6_full 1 (by decide) rfl (Nat.le_of_ble_eq_true rfl) ?_
  intro p e s m below meth c ls C hR hS hl
  have C : Cx p s m [.ref (G.2.1 75)].toArray meth c cX6_full RX6 wsX6_full (some .int) 1 G := C
  have hx := C.1
  have hb := C.2.1
  have hl : lv_has ls 1 [(0, .ref (G.2.1 75))] := hl
  have inX6 : ∀ w ∈ u_ws RX6 TX6 22, w ∈ wsX6_full := fun w h => List.mem_cons_of_mem _ (List.mem_append_right _ h)
  unfold f_X6_full at hf
  refine lv_aload_n hx hb dX6_full_0 rfl (lv_at hl 0 rfl) ?_
  refine x_get C hR inX6 75 (by decide) (cz5 rfl) rfl 3 (by decide) 1 rfl (.ref (G.2.1 79)) rfl dX6_full_1 ?_
  refine lv_iconst (v := 2) hx hb dX6_full_4 (by decide) ?_
  refine lv_dup2_11 hx hb dX6_full_5 rfl rfl ?_
  refine x_iald C hR 79 rfl (x_in rfl) (n := 2) rfl (sA σ 79 2) rfl dX6_full_6 ?_
  refine lv_iconst (v := 1) hx hb dX6_full_7 (by decide) ?_
  refine lv_iadd hx hb dX6_full_8 ?_
  refine x_iast C hR hS 79 rfl (x_in rfl) (n := 2) rfl dX6_full_9 (fun H locs hR hS => ?_)
  refine lv_bipush (v := (-4)) hx hb dX6_full_10 (by decide) ?_
  obtain rfl := Option.some.inj hf
  exact x_iret C hR hS dX6_full_12 ⟨rfl, rfl⟩
theorem hdS_X6_bits : yX6_bits.cls ≠ "java/lang/invoke/MethodHandle" ∧ yX6_bits.cls ≠ "java/lang/invoke/VarHandle" ∧ (parseMethodDescriptor yX6_bits.desc).map (fun d => d.parameters.length) = some 1 := by decide +kernel
def f_X6_bits_4 : Nat → Int32 → Int32 → St → Option (Int32 × St)
  | 0, _, _, _ => none
  | n + 1, x1, x2, σ => (if x2 ≤ 0 then some (x1, σ) else (f_X6_bits_4 n) (x1 + (x2 &&& 1)) (x2 >>> (1 &&& 31)) σ)
def f_X6_bits (x0 : Int32) (σ : St) : Option (Int32 × St) :=
  f_X6_bits_4 FU 0 x0 σ
set_option maxHeartbeats 4000000 in
set_option maxRecDepth 100000 in
theorem w_X6_bits_4 {p : Program} {l : Launch} {e : Env} {s : State} {m : MethodId} {args : Array Value} {below : List Frame} {meth : Method} {c : Code} {G : GG} (C : Cx p s m args meth c cX6_bits RX6 wsX6_bits (some .int) 3 G) {res : Int32 × St} : ∀ (n : Nat) (x1 : Int32) (x2 : Int32) (σ : St), f_X6_bits_4 n x1 x2 σ = some res → WC p l e 0 s m args below meth c G (QI G res) 3 4 [(1, .int x1), (2, .int x2)] [] σ := by
  have hx := C.1
  have hb := C.2.1
  intro n
  induction n with
  | zero => intro x1 x2 σ hf; cases hf
  | succ n hrc4 =>
    intro x1 x2 σ hf _ _ _ hR hS hl
    unfold f_X6_bits_4 at hf
    refine lv_iload_n hx hb dX6_bits_4 rfl (lv_at hl 1 rfl) ?_
    refine lv_if_le (tgt := 21) hx hb dX6_bits_5 (by decide) (fun c_5 => ?_) (fun c_5 => ?_)
    · replace hf := (if_pos c_5).symm.trans hf
      refine lv_iload_n hx hb dX6_bits_21 rfl (lv_at hl 0 rfl) ?_
      obtain rfl := Option.some.inj hf
      exact x_iret C hR hS dX6_bits_22 ⟨rfl, rfl⟩
    · replace hf := (if_neg c_5).symm.trans hf
      refine lv_iload_n hx hb dX6_bits_8 rfl (lv_at hl 0 rfl) ?_
      refine lv_iload_n hx hb dX6_bits_9 rfl (lv_at hl 1 rfl) ?_
      refine lv_iconst (v := 1) hx hb dX6_bits_10 (by decide) ?_
      refine lv_iand hx hb dX6_bits_11 ?_
      refine lv_iadd hx hb dX6_bits_12 ?_
      refine lv_istore_n (lv' := [(1, .int (x1 + (x2 &&& 1))), (2, .int x2)]) hx hb dX6_bits_13 rfl hl (by decide) rfl (fun ls hl => ?_)
      refine lv_iload_n hx hb dX6_bits_14 rfl (lv_at hl 1 rfl) ?_
      refine lv_iconst (v := 1) hx hb dX6_bits_15 (by decide) ?_
      refine lv_ishr hx hb dX6_bits_16 ?_
      refine lv_istore_n (lv' := [(2, .int (x2 >>> (1 &&& 31))), (1, .int (x1 + (x2 &&& 1)))]) hx hb dX6_bits_17 rfl hl (by decide) rfl (fun ls hl => ?_)
      refine lv_goto (tgt := 4) hx hb dX6_bits_18 (by decide) ?_
      exact hrc4 (x1 + (x2 &&& 1)) (x2 >>> (1 &&& 31)) _ hf _ _ _ hR hS (lv_sub hl [1, 0] rfl)
set_option maxHeartbeats 4000000 in
set_option maxRecDepth 100000 in
theorem c_X6_bits (l : Launch) (G : GG) (x0 : Int32) (σ : St) (res : Int32 × St) (hf : f_X6_bits x0 σ = some res) : CI l yX6_bits wsX6_bits 0 [.int x0] G σ (fun r u => r = res.1 ∧ u = res.2) := by
  refine x_ent (ret := (some .int)) cX6_bits 3 (by decide) rfl (Nat.le_of_ble_eq_true rfl) ?_
  intro p e s m below meth c ls C hR hS hl
  have C : Cx p s m [.int x0].toArray meth c cX6_bits RX6 wsX6_bits (some .int) 3 G := C
  have hx := C.1
  have hb := C.2.1
  have hl : lv_has ls 3 [(0, .int x0)] := hl
  unfold f_X6_bits at hf
  refine lv_iconst (v := 0) hx hb dX6_bits_0 (by decide) ?_
  refine lv_istore_n (lv' := [(1, .int 0), (0, .int x0)]) hx hb dX6_bits_1 rfl hl (by decide) rfl (fun ls hl => ?_)
  refine lv_iload_n hx hb dX6_bits_2 rfl (lv_at hl 1 rfl) ?_
  refine lv_istore_n (lv' := [(2, .int x0), (1, .int 0), (0, .int x0)]) hx hb dX6_bits_3 rfl hl (by decide) rfl (fun ls hl => ?_)
  exact w_X6_bits_4 C  FU 0 x0 _ hf _ _ _ hR hS (lv_sub hl [1, 0] rfl)
theorem hdS_X6_begin : yX6_begin.cls ≠ "java/lang/invoke/MethodHandle" ∧ yX6_begin.cls ≠ "java/lang/invoke/VarHandle" ∧ (parseMethodDescriptor yX6_begin.desc).map (fun d => d.parameters.length) = some 2 := by decide +kernel
def f_X6_begin_76_2 : Nat → Int32 → Int32 → St → Option (St)
  | 0, _, _, _ => none
  | n + 1, x1, x2, σ => (if 42 ≤ x2 then some (pA σ 76 1 x1) else gd (x2 < 0 ∨ 122 ≤ x2.toNatClampNeg) ((f_X6_begin_76_2 n) x1 (x2 + 1) (pA σ 76 x2.toNatClampNeg 0)))
def f_X6_begin_76 (x1 : Int32) (σ : St) : Option (St) :=
  f_X6_begin_76_2 FU x1 0 σ
set_option maxHeartbeats 4000000 in
set_option maxRecDepth 100000 in
theorem w_X6_begin_76_2 {p : Program} {l : Launch} {e : Env} {s : State} {m : MethodId} {args : Array Value} {below : List Frame} {meth : Method} {c : Code} {G : GG} (C : Cx p s m args meth c cX6_begin RX6 wsX6_begin none 3 G) {res : St} : ∀ (n : Nat) (x1 : Int32) (x2 : Int32) (σ : St), f_X6_begin_76_2 n x1 x2 σ = some res → WC p l e 0 s m args below meth c G (QV G res) 3 2 [(0, .ref (G.2.1 76)), (1, .int x1), (2, .int x2)] [] σ := by
  have hx := C.1
  have hb := C.2.1
  intro n
  induction n with
  | zero => intro x1 x2 σ hf; cases hf
  | succ n hrc2 =>
    intro x1 x2 σ hf _ _ _ hR hS hl
    unfold f_X6_begin_76_2 at hf
    refine lv_iload_n hx hb dX6_begin_2 rfl (lv_at hl 2 rfl) ?_
    refine lv_bipush (v := 42) hx hb dX6_begin_3 (by decide) ?_
    refine lv_icmp_ge (tgt := 18) hx hb dX6_begin_5 (by decide) (fun c_5 => ?_) (fun c_5 => ?_)
    · replace hf := (if_pos c_5).symm.trans hf
      refine lv_aload_n hx hb dX6_begin_18 rfl (lv_at hl 0 rfl) ?_
      refine lv_iconst (v := 1) hx hb dX6_begin_19 (by decide) ?_
      refine lv_iload_n hx hb dX6_begin_20 rfl (lv_at hl 1 rfl) ?_
      refine x_iast C hR hS 76 rfl (x_in rfl) (n := 1) rfl dX6_begin_21 (fun H locs hR hS => ?_)
      obtain rfl := Option.some.inj hf
      exact x_vret C hR hS dX6_begin_22 rfl
    · replace hf := (if_neg c_5).symm.trans hf
      refine lv_aload_n hx hb dX6_begin_8 rfl (lv_at hl 0 rfl) ?_
      refine lv_iload_n hx hb dX6_begin_9 rfl (lv_at hl 2 rfl) ?_
      refine lv_iconst (v := 0) hx hb dX6_begin_10 (by decide) ?_
      obtain ⟨z_11, hf⟩ := gd_some hf
      refine x_iast C hR hS 76 rfl z_11 (n := x2.toNatClampNeg) rfl dX6_begin_11 (fun H locs hR hS => ?_)
      refine lv_iinc (v := x2 + 1) (lv' := [(2, .int (x2 + 1)), (0, .ref (G.2.1 76)), (1, .int x1)]) hx hb dX6_begin_12 hl (k := 2) rfl rfl (by decide) rfl (fun ls hl => ?_)
      refine lv_goto (tgt := 2) hx hb dX6_begin_15 (by decide) ?_
      exact hrc2 x1 (x2 + 1) _ hf _ _ _ hR hS (lv_sub hl [1, 2, 0] rfl)
set_option maxHeartbeats 4000000 in
set_option maxRecDepth 100000 in
theorem c_X6_begin_76 (l : Launch) (G : GG) (x1 : Int32) (σ : St) (res : St) (hf : f_X6_begin_76 x1 σ = some res) : CV l yX6_begin wsX6_begin 0 [.ref (G.2.1 76), .int x1] G σ (fun u => u = res) := by
  refine x_ent (ret := none) cX6_begin 3 (by decide) rfl (Nat.le_of_ble_eq_true rfl) ?_
  intro p e s m below meth c ls C hR hS hl
  have C : Cx p s m [.ref (G.2.1 76), .int x1].toArray meth c cX6_begin RX6 wsX6_begin none 3 G := C
  have hx := C.1
  have hb := C.2.1
  have hl : lv_has ls 3 [(0, .ref (G.2.1 76)), (1, .int x1)] := hl
  unfold f_X6_begin_76 at hf
  refine lv_iconst (v := 0) hx hb dX6_begin_0 (by decide) ?_
  refine lv_istore_n (lv' := [(2, .int 0), (0, .ref (G.2.1 76)), (1, .int x1)]) hx hb dX6_begin_1 rfl hl (by decide) rfl (fun ls hl => ?_)
  exact w_X6_begin_76_2 C  FU x1 0 _ hf _ _ _ hR hS (lv_sub hl [1, 2, 0] rfl)
def f_X6_begin_87_2 : Nat → Int32 → Int32 → St → Option (St)
  | 0, _, _, _ => none
  | n + 1, x1, x2, σ => (if 42 ≤ x2 then some (pA σ 87 1 x1) else gd (x2 < 0 ∨ 42 ≤ x2.toNatClampNeg) ((f_X6_begin_87_2 n) x1 (x2 + 1) (pA σ 87 x2.toNatClampNeg 0)))
def f_X6_begin_87 (x1 : Int32) (σ : St) : Option (St) :=
  f_X6_begin_87_2 FU x1 0 σ
set_option maxHeartbeats 4000000 in
set_option maxRecDepth 100000 in
theorem w_X6_begin_87_2 {p : Program} {l : Launch} {e : Env} {s : State} {m : MethodId} {args : Array Value} {below : List Frame} {meth : Method} {c : Code} {G : GG} (C : Cx p s m args meth c cX6_begin RX6 wsX6_begin none 3 G) {res : St} : ∀ (n : Nat) (x1 : Int32) (x2 : Int32) (σ : St), f_X6_begin_87_2 n x1 x2 σ = some res → WC p l e 0 s m args below meth c G (QV G res) 3 2 [(0, .ref (G.2.1 87)), (1, .int x1), (2, .int x2)] [] σ := by
  have hx := C.1
  have hb := C.2.1
  intro n
  induction n with
  | zero => intro x1 x2 σ hf; cases hf
  | succ n hrc2 =>
    intro x1 x2 σ hf _ _ _ hR hS hl
    unfold f_X6_begin_87_2 at hf
    refine lv_iload_n hx hb dX6_begin_2 rfl (lv_at hl 2 rfl) ?_
    refine lv_bipush (v := 42) hx hb dX6_begin_3 (by decide) ?_
    refine lv_icmp_ge (tgt := 18) hx hb dX6_begin_5 (by decide) (fun c_5 => ?_) (fun c_5 => ?_)
    · replace hf := (if_pos c_5).symm.trans hf
      refine lv_aload_n hx hb dX6_begin_18 rfl (lv_at hl 0 rfl) ?_
      refine lv_iconst (v := 1) hx hb dX6_begin_19 (by decide) ?_
      refine lv_iload_n hx hb dX6_begin_20 rfl (lv_at hl 1 rfl) ?_
      refine x_iast C hR hS 87 rfl (x_in rfl) (n := 1) rfl dX6_begin_21 (fun H locs hR hS => ?_)
      obtain rfl := Option.some.inj hf
      exact x_vret C hR hS dX6_begin_22 rfl
    · replace hf := (if_neg c_5).symm.trans hf
      refine lv_aload_n hx hb dX6_begin_8 rfl (lv_at hl 0 rfl) ?_
      refine lv_iload_n hx hb dX6_begin_9 rfl (lv_at hl 2 rfl) ?_
      refine lv_iconst (v := 0) hx hb dX6_begin_10 (by decide) ?_
      obtain ⟨z_11, hf⟩ := gd_some hf
      refine x_iast C hR hS 87 rfl z_11 (n := x2.toNatClampNeg) rfl dX6_begin_11 (fun H locs hR hS => ?_)
      refine lv_iinc (v := x2 + 1) (lv' := [(2, .int (x2 + 1)), (0, .ref (G.2.1 87)), (1, .int x1)]) hx hb dX6_begin_12 hl (k := 2) rfl rfl (by decide) rfl (fun ls hl => ?_)
      refine lv_goto (tgt := 2) hx hb dX6_begin_15 (by decide) ?_
      exact hrc2 x1 (x2 + 1) _ hf _ _ _ hR hS (lv_sub hl [1, 2, 0] rfl)
set_option maxHeartbeats 4000000 in
set_option maxRecDepth 100000 in
theorem c_X6_begin_87 (l : Launch) (G : GG) (x1 : Int32) (σ : St) (res : St) (hf : f_X6_begin_87 x1 σ = some res) : CV l yX6_begin wsX6_begin 0 [.ref (G.2.1 87), .int x1] G σ (fun u => u = res) := by
  refine x_ent (ret := none) cX6_begin 3 (by decide) rfl (Nat.le_of_ble_eq_true rfl) ?_
  intro p e s m below meth c ls C hR hS hl
  have C : Cx p s m [.ref (G.2.1 87), .int x1].toArray meth c cX6_begin RX6 wsX6_begin none 3 G := C
  have hx := C.1
  have hb := C.2.1
  have hl : lv_has ls 3 [(0, .ref (G.2.1 87)), (1, .int x1)] := hl
  unfold f_X6_begin_87 at hf
  refine lv_iconst (v := 0) hx hb dX6_begin_0 (by decide) ?_
  refine lv_istore_n (lv' := [(2, .int 0), (0, .ref (G.2.1 87)), (1, .int x1)]) hx hb dX6_begin_1 rfl hl (by decide) rfl (fun ls hl => ?_)
  exact w_X6_begin_87_2 C  FU x1 0 _ hf _ _ _ hR hS (lv_sub hl [1, 2, 0] rfl)
theorem hdV_X6_locks : yX6_locks.cls = RX6 ∧ yX6_locks.cls ≠ "java/lang/invoke/MethodHandle" ∧ yX6_locks.cls ≠ "java/lang/invoke/VarHandle" ∧ (parseMethodDescriptor yX6_locks.desc).map (fun d => d.parameters.length) = some 0 := by decide +kernel
def f_X6_locks (σ : St) : Option (Int32 × St) :=
  some (sA σ 76 0, σ)
set_option maxHeartbeats 4000000 in
set_option maxRecDepth 100000 in
theorem c_X6_locks (l : Launch) (G : GG) (σ : St) (res : Int32 × St) (hf : f_X6_locks σ = some res) : CI l yX6_locks wsX6_locks 0 [.ref (G.2.1 75)] G σ (fun r u => r = res.1 ∧ u = res.2) := by
  refine x_ent (ret := (some .int)) cX6_locks 1 (by decide) rfl (Nat.le_of_ble_eq_true rfl) ?_
  intro p e s m below meth c ls C hR hS hl
  have C : Cx p s m [.ref (G.2.1 75)].toArray meth c cX6_locks RX6 wsX6_locks (some .int) 1 G := C
  have hx := C.1
  have hb := C.2.1
  have hl : lv_has ls 1 [(0, .ref (G.2.1 75))] := hl
  have inX6 : ∀ w ∈ u_ws RX6 TX6 22, w ∈ wsX6_locks := fun w h => List.mem_cons_of_mem _ (List.mem_append_right _ h)
  unfold f_X6_locks at hf
  refine lv_aload_n hx hb dX6_locks_0 rfl (lv_at hl 0 rfl) ?_
  refine x_get C hR inX6 75 (by decide) (cz5 rfl) rfl 0 (by decide) 1 rfl (.ref (G.2.1 76)) rfl dX6_locks_1 ?_
  refine lv_iconst (v := 0) hx hb dX6_locks_4 (by decide) ?_
  refine x_iald C hR 76 rfl (x_in rfl) (n := 0) rfl (sA σ 76 0) rfl dX6_locks_5 ?_
  obtain rfl := Option.some.inj hf
  exact x_iret C hR hS dX6_locks_6 ⟨rfl, rfl⟩
theorem hdV_X6_isLock : yX6_isLock.cls = RX6 ∧ yX6_isLock.cls ≠ "java/lang/invoke/MethodHandle" ∧ yX6_isLock.cls ≠ "java/lang/invoke/VarHandle" ∧ (parseMethodDescriptor yX6_isLock.desc).map (fun d => d.parameters.length) = some 1 := by decide +kernel
def f_X6_isLock (x1 : Int32) (σ : St) : Option (Int32 × St) :=
  bd (f_X6_locks σ) (fun r4 σ4 => bd (f_X6_in x1.toInt64 0 ((r4 - 1).toInt64) σ4) (fun r10 σ10 => gb r10 (some (r10, σ10))))
set_option maxHeartbeats 4000000 in
set_option maxRecDepth 100000 in
theorem c_X6_isLock (l : Launch) (G : GG) (x1 : Int32) (σ : St) (res : Int32 × St) (hf : f_X6_isLock x1 σ = some res) : CI l yX6_isLock wsX6_isLock 1 [.ref (G.2.1 75), .int x1] G σ (fun r u => r = res.1 ∧ u = res.2) := by
  refine x_ent (ret := (some .boolean)) cX6_isLock 2 (by decide) rfl (Nat.le_of_ble_eq_true rfl) ?_
  intro p e s m below meth c ls C hR hS hl
  have C : Cx p s m [.ref (G.2.1 75), .int x1].toArray meth c cX6_isLock RX6 wsX6_isLock (some .boolean) 2 G := C
  have hx := C.1
  have hb := C.2.1
  have hl : lv_has ls 2 [(0, .ref (G.2.1 75)), (1, .int x1)] := hl
  unfold f_X6_isLock at hf
  refine lv_iload_n hx hb dX6_isLock_0 rfl (lv_at hl 1 rfl) ?_
  refine lv_i2l (v := x1.toInt64) hx hb dX6_isLock_1 rfl ?_
  refine lv_lconst (v := 0) hx hb dX6_isLock_2 (by decide) ?_
  refine lv_aload_n hx hb dX6_isLock_3 rfl (lv_at hl 0 rfl) ?_
  obtain ⟨r4_, σ4_, hc_4, hf⟩ := bd_some hf
  refine x_cvI C hl.1 hR hS (c_X6_locks l G σ _ hc_4) gX6_isLock_X6_locks rfl hdV_X6_locks ⟨Nat.le_of_ble_eq_true rfl, Nat.le_of_ble_eq_true rfl⟩ (by decide) (cz5 rfl) rfl rfl (As := []) (rest := [.long 0, .long x1.toInt64]) rfl (Nat.le_of_ble_eq_true rfl) ⟨Nat.le_of_ble_eq_true rfl, Nat.le_of_ble_eq_true rfl⟩ dX6_isLock_4 (fun r4 σ4 H locs hq_4 hR hS => ?_)
  obtain ⟨rfl, rfl⟩ := hq_4
  refine lv_iconst (v := 1) hx hb dX6_isLock_7 (by decide) ?_
  refine lv_isub hx hb dX6_isLock_8 ?_
  refine lv_i2l (v := (r4 - 1).toInt64) hx hb dX6_isLock_9 rfl ?_
  obtain ⟨r10_, σ10_, hc_10, hf⟩ := bd_some hf
  refine x_csI C hl.1 hR hS (c_X6_in l G x1.toInt64 0 ((r4 - 1).toInt64) σ4 _ hc_10) gX6_isLock_X6_in rfl hdS_X6_in ⟨Nat.le_of_ble_eq_true rfl, Nat.le_of_ble_eq_true rfl⟩ rfl (As := [.long x1.toInt64, .long 0, .long ((r4 - 1).toInt64)]) (rest := []) rfl (Nat.le_of_ble_eq_true rfl) ⟨Nat.le_of_ble_eq_true rfl, Nat.le_of_ble_eq_true rfl⟩ dX6_isLock_10 (fun r10 σ10 H locs hq_10 hR hS => ?_)
  obtain ⟨rfl, rfl⟩ := hq_10
  obtain ⟨z_13, hf⟩ := gb_some hf
  obtain rfl := Option.some.inj hf
  exact x_zret C hR hS dX6_isLock_13 z_13 ⟨rfl, rfl⟩
theorem hdV_X6_get : yX6_get.cls = RX6 ∧ yX6_get.cls ≠ "java/lang/invoke/MethodHandle" ∧ yX6_get.cls ≠ "java/lang/invoke/VarHandle" ∧ (parseMethodDescriptor yX6_get.desc).map (fun d => d.parameters.length) = some 2 := by decide +kernel
def f_X6_get (x1 : Int32) (x2 : Int32) (σ : St) : Option (Int32 × St) :=
  gd (((6 + (3 * x1)) + x2) < 0 ∨ 122 ≤ ((6 + (3 * x1)) + x2).toNatClampNeg) (some (sA σ 76 (((6 + (3 * x1)) + x2).toNatClampNeg), σ))
set_option maxHeartbeats 4000000 in
set_option maxRecDepth 100000 in
theorem c_X6_get (l : Launch) (G : GG) (x1 : Int32) (x2 : Int32) (σ : St) (res : Int32 × St) (hf : f_X6_get x1 x2 σ = some res) : CI l yX6_get wsX6_get 0 [.ref (G.2.1 75), .int x1, .int x2] G σ (fun r u => r = res.1 ∧ u = res.2) := by
  refine x_ent (ret := (some .int)) cX6_get 3 (by decide) rfl (Nat.le_of_ble_eq_true rfl) ?_
  intro p e s m below meth c ls C hR hS hl
  have C : Cx p s m [.ref (G.2.1 75), .int x1, .int x2].toArray meth c cX6_get RX6 wsX6_get (some .int) 3 G := C
  have hx := C.1
  have hb := C.2.1
  have hl : lv_has ls 3 [(0, .ref (G.2.1 75)), (1, .int x1), (2, .int x2)] := hl
  have inX6 : ∀ w ∈ u_ws RX6 TX6 22, w ∈ wsX6_get := fun w h => List.mem_cons_of_mem _ (List.mem_append_right _ h)
  unfold f_X6_get at hf
  refine lv_aload_n hx hb dX6_get_0 rfl (lv_at hl 0 rfl) ?_
  refine x_get C hR inX6 75 (by decide) (cz5 rfl) rfl 0 (by decide) 1 rfl (.ref (G.2.1 76)) rfl dX6_get_1 ?_
  refine lv_bipush (v := 6) hx hb dX6_get_4 (by decide) ?_
  refine lv_iconst (v := 3) hx hb dX6_get_6 (by decide) ?_
  refine lv_iload_n hx hb dX6_get_7 rfl (lv_at hl 1 rfl) ?_
  refine lv_imul hx hb dX6_get_8 ?_
  refine lv_iadd hx hb dX6_get_9 ?_
  refine lv_iload_n hx hb dX6_get_10 rfl (lv_at hl 2 rfl) ?_
  refine lv_iadd hx hb dX6_get_11 ?_
  obtain ⟨z_12, hf⟩ := gd_some hf
  refine x_iald C hR 76 rfl z_12 (n := ((6 + (3 * x1)) + x2).toNatClampNeg) rfl (sA σ 76 (((6 + (3 * x1)) + x2).toNatClampNeg)) rfl dX6_get_12 ?_
  obtain rfl := Option.some.inj hf
  exact x_iret C hR hS dX6_get_13 ⟨rfl, rfl⟩
theorem hdV_X6_flight : yX6_flight.cls = RX6 ∧ yX6_flight.cls ≠ "java/lang/invoke/MethodHandle" ∧ yX6_flight.cls ≠ "java/lang/invoke/VarHandle" ∧ (parseMethodDescriptor yX6_flight.desc).map (fun d => d.parameters.length) = some 1 := by decide +kernel
def f_X6_flight (x1 : Int32) (σ : St) : Option (Int32 × St) :=
  bd (f_X6_in x1.toInt64 0 9 σ) (fun r6 σ6 => (if r6 = 0 then bd (f_X6_bad (-2) σ6) (fun r15 σ15 => some (r15, σ15)) else bd (f_X6_locks σ6) (fun r20 σ20 => bv (f_X6_begin_76 x1 σ20) (fun σ29 => some (r20, σ29)))))
set_option maxHeartbeats 4000000 in
set_option maxRecDepth 100000 in
theorem c_X6_flight (l : Launch) (G : GG) (x1 : Int32) (σ : St) (res : Int32 × St) (hf : f_X6_flight x1 σ = some res) : CI l yX6_flight wsX6_flight 1 [.ref (G.2.1 75), .int x1] G σ (fun r u => r = res.1 ∧ u = res.2) := by
  refine x_ent (ret := (some .int)) cX6_flight 3 (by decide) rfl (Nat.le_of_ble_eq_true rfl) ?_
  intro p e s m below meth c ls C hR hS hl
  have C : Cx p s m [.ref (G.2.1 75), .int x1].toArray meth c cX6_flight RX6 wsX6_flight (some .int) 3 G := C
  have hx := C.1
  have hb := C.2.1
  have hl : lv_has ls 3 [(0, .ref (G.2.1 75)), (1, .int x1)] := hl
  have inX6 : ∀ w ∈ u_ws RX6 TX6 22, w ∈ wsX6_flight := fun w h => List.mem_cons_of_mem _ (List.mem_append_right _ h)
  unfold f_X6_flight at hf
  refine lv_iload_n hx hb dX6_flight_0 rfl (lv_at hl 1 rfl) ?_
  refine lv_i2l (v := x1.toInt64) hx hb dX6_flight_1 rfl ?_
  refine lv_lconst (v := 0) hx hb dX6_flight_2 (by decide) ?_
  refine lv_ldc2 (v := 9) hx hb C.2.2.2.2.1 (C.2.2.2.2.2.1 _ (List.mem_of_getElem? (i := 1) rfl)) dX6_flight_3 ?_
  obtain ⟨r6_, σ6_, hc_6, hf⟩ := bd_some hf
  refine x_csI C hl.1 hR hS (c_X6_in l G x1.toInt64 0 9 σ _ hc_6) gX6_flight_X6_in rfl hdS_X6_in ⟨Nat.le_of_ble_eq_true rfl, Nat.le_of_ble_eq_true rfl⟩ rfl (As := [.long x1.toInt64, .long 0, .long 9]) (rest := []) rfl (Nat.le_of_ble_eq_true rfl) ⟨Nat.le_of_ble_eq_true rfl, Nat.le_of_ble_eq_true rfl⟩ dX6_flight_6 (fun r6 σ6 H locs hq_6 hR hS => ?_)
  obtain ⟨rfl, rfl⟩ := hq_6
  refine lv_if_ne (tgt := 19) hx hb dX6_flight_9 (by decide) (fun c_9 => ?_) (fun c_9 => ?_)
  · replace hf := (if_neg c_9).symm.trans hf
    refine lv_aload_n hx hb dX6_flight_19 rfl (lv_at hl 0 rfl) ?_
    obtain ⟨r20_, σ20_, hc_20, hf⟩ := bd_some hf
    refine x_cvI C hl.1 hR hS (c_X6_locks l G σ6 _ hc_20) gX6_flight_X6_locks rfl hdV_X6_locks ⟨Nat.le_of_ble_eq_true rfl, Nat.le_of_ble_eq_true rfl⟩ (by decide) (cz5 rfl) rfl rfl (As := []) (rest := []) rfl (Nat.le_of_ble_eq_true rfl) ⟨Nat.le_of_ble_eq_true rfl, Nat.le_of_ble_eq_true rfl⟩ dX6_flight_20 (fun r20 σ20 H locs hq_20 hR hS => ?_)
    obtain ⟨rfl, rfl⟩ := hq_20
    refine lv_istore_n (lv' := [(2, .int r20), (0, .ref (G.2.1 75)), (1, .int x1)]) hx hb dX6_flight_23 rfl hl (by decide) rfl (fun ls hl => ?_)
    refine lv_aload_n hx hb dX6_flight_24 rfl (lv_at hl 1 rfl) ?_
    refine x_get C hR inX6 75 (by decide) (cz5 rfl) rfl 0 (by decide) 2 rfl (.ref (G.2.1 76)) rfl dX6_flight_25 ?_
    refine lv_iload_n hx hb dX6_flight_28 rfl (lv_at hl 2 rfl) ?_
    obtain ⟨σ29_, hc_29, hf⟩ := bv_some hf
    refine x_csV C hl.1 hR hS (c_X6_begin_76 l G x1 σ20 _ hc_29) gX6_flight_X6_begin rfl hdS_X6_begin ⟨Nat.le_of_ble_eq_true rfl, Nat.le_of_ble_eq_true rfl⟩ rfl (As := [.ref (G.2.1 76), .int x1]) (rest := []) rfl (Nat.le_of_ble_eq_true rfl) ⟨Nat.le_of_ble_eq_true rfl, Nat.le_of_ble_eq_true rfl⟩ dX6_flight_29 (fun σ29 H locs hq_29 hR hS => ?_)
    subst hq_29
    refine lv_iload_n hx hb dX6_flight_32 rfl (lv_at hl 0 rfl) ?_
    obtain rfl := Option.some.inj hf
    exact x_iret C hR hS dX6_flight_33 ⟨rfl, rfl⟩
  · replace hf := (if_pos c_9).symm.trans hf
    refine lv_aload_n hx hb dX6_flight_12 rfl (lv_at hl 0 rfl) ?_
    refine lv_bipush (v := (-2)) hx hb dX6_flight_13 (by decide) ?_
    obtain ⟨r15_, σ15_, hc_15, hf⟩ := bd_some hf
    refine x_cvI C hl.1 hR hS (c_X6_bad l G (-2) σ6 _ hc_15) gX6_flight_X6_bad rfl hdV_X6_bad ⟨Nat.le_of_ble_eq_true rfl, Nat.le_of_ble_eq_true rfl⟩ (by decide) (cz5 rfl) rfl rfl (As := [.int (-2)]) (rest := []) rfl (Nat.le_of_ble_eq_true rfl) ⟨Nat.le_of_ble_eq_true rfl, Nat.le_of_ble_eq_true rfl⟩ dX6_flight_15 (fun r15 σ15 H locs hq_15 hR hS => ?_)
    obtain ⟨rfl, rfl⟩ := hq_15
    obtain rfl := Option.some.inj hf
    exact x_iret C hR hS dX6_flight_18 ⟨rfl, rfl⟩
theorem hdS_X6_layLock : yX6_layLock.cls ≠ "java/lang/invoke/MethodHandle" ∧ yX6_layLock.cls ≠ "java/lang/invoke/VarHandle" ∧ (parseMethodDescriptor yX6_layLock.desc).map (fun d => d.parameters.length) = some 4 := by decide +kernel
def f_X6_layLock_76 (x1 : Int32) (x2 : Int32) (x3 : Int32) (σ : St) : Option (St) :=
  gd (((6 + (3 * (sA σ 76 0))) + 0) < 0 ∨ 122 ≤ ((6 + (3 * (sA σ 76 0))) + 0).toNatClampNeg) (gd (((6 + (3 * (sA σ 76 0))) + 1) < 0 ∨ 122 ≤ ((6 + (3 * (sA σ 76 0))) + 1).toNatClampNeg) (gd (((6 + (3 * (sA σ 76 0))) + 2) < 0 ∨ 122 ≤ ((6 + (3 * (sA σ 76 0))) + 2).toNatClampNeg) (some (pA (pA (pA (pA σ 76 (((6 + (3 * (sA σ 76 0))) + 0).toNatClampNeg) x1) 76 (((6 + (3 * (sA σ 76 0))) + 1).toNatClampNeg) x2) 76 (((6 + (3 * (sA σ 76 0))) + 2).toNatClampNeg) x3) 76 0 ((sA (pA (pA (pA σ 76 (((6 + (3 * (sA σ 76 0))) + 0).toNatClampNeg) x1) 76 (((6 + (3 * (sA σ 76 0))) + 1).toNatClampNeg) x2) 76 (((6 + (3 * (sA σ 76 0))) + 2).toNatClampNeg) x3) 76 0) + 1)))))
set_option maxHeartbeats 4000000 in
set_option maxRecDepth 100000 in
theorem c_X6_layLock_76 (l : Launch) (G : GG) (x1 : Int32) (x2 : Int32) (x3 : Int32) (σ : St) (res : St) (hf : f_X6_layLock_76 x1 x2 x3 σ = some res) : CV l yX6_layLock wsX6_layLock 0 [.ref (G.2.1 76), .int x1, .int x2, .int x3] G σ (fun u => u = res) := by
  refine x_ent (ret := none) cX6_layLock 5 (by decide) rfl (Nat.le_of_ble_eq_true rfl) ?_
  intro p e s m below meth c ls C hR hS hl
  have C : Cx p s m [.ref (G.2.1 76), .int x1, .int x2, .int x3].toArray meth c cX6_layLock RX6 wsX6_layLock none 5 G := C
  have hx := C.1
  have hb := C.2.1
  have hl : lv_has ls 5 [(0, .ref (G.2.1 76)), (1, .int x1), (2, .int x2), (3, .int x3)] := hl
  unfold f_X6_layLock_76 at hf
  refine lv_bipush (v := 6) hx hb dX6_layLock_0 (by decide) ?_
  refine lv_iconst (v := 3) hx hb dX6_layLock_2 (by decide) ?_
  refine lv_aload_n hx hb dX6_layLock_3 rfl (lv_at hl 0 rfl) ?_
  refine lv_iconst (v := 0) hx hb dX6_layLock_4 (by decide) ?_
  refine x_iald C hR 76 rfl (x_in rfl) (n := 0) rfl (sA σ 76 0) rfl dX6_layLock_5 ?_
  refine lv_imul hx hb dX6_layLock_6 ?_
  refine lv_iadd hx hb dX6_layLock_7 ?_
  refine lv_istore (lv' := [(4, .int (6 + (3 * (sA σ 76 0)))), (0, .ref (G.2.1 76)), (1, .int x1), (2, .int x2), (3, .int x3)]) hx hb dX6_layLock_8 hl (by decide) rfl (fun ls hl => ?_)
  refine lv_aload_n hx hb dX6_layLock_10 rfl (lv_at hl 1 rfl) ?_
  refine lv_iload hx hb dX6_layLock_11 (lv_at hl 0 rfl) ?_
  refine lv_iconst (v := 0) hx hb dX6_layLock_13 (by decide) ?_
  refine lv_iadd hx hb dX6_layLock_14 ?_
  refine lv_iload_n hx hb dX6_layLock_15 rfl (lv_at hl 2 rfl) ?_
  obtain ⟨z_16, hf⟩ := gd_some hf
  refine x_iast C hR hS 76 rfl z_16 (n := ((6 + (3 * (sA σ 76 0))) + 0).toNatClampNeg) rfl dX6_layLock_16 (fun H locs hR hS => ?_)
  refine lv_aload_n hx hb dX6_layLock_17 rfl (lv_at hl 1 rfl) ?_
  refine lv_iload hx hb dX6_layLock_18 (lv_at hl 0 rfl) ?_
  refine lv_iconst (v := 1) hx hb dX6_layLock_20 (by decide) ?_
  refine lv_iadd hx hb dX6_layLock_21 ?_
  refine lv_iload_n hx hb dX6_layLock_22 rfl (lv_at hl 3 rfl) ?_
  obtain ⟨z_23, hf⟩ := gd_some hf
  refine x_iast C hR hS 76 rfl z_23 (n := ((6 + (3 * (sA σ 76 0))) + 1).toNatClampNeg) rfl dX6_layLock_23 (fun H locs hR hS => ?_)
  refine lv_aload_n hx hb dX6_layLock_24 rfl (lv_at hl 1 rfl) ?_
  refine lv_iload hx hb dX6_layLock_25 (lv_at hl 0 rfl) ?_
  refine lv_iconst (v := 2) hx hb dX6_layLock_27 (by decide) ?_
  refine lv_iadd hx hb dX6_layLock_28 ?_
  refine lv_iload_n hx hb dX6_layLock_29 rfl (lv_at hl 4 rfl) ?_
  obtain ⟨z_30, hf⟩ := gd_some hf
  refine x_iast C hR hS 76 rfl z_30 (n := ((6 + (3 * (sA σ 76 0))) + 2).toNatClampNeg) rfl dX6_layLock_30 (fun H locs hR hS => ?_)
  refine lv_aload_n hx hb dX6_layLock_31 rfl (lv_at hl 1 rfl) ?_
  refine lv_iconst (v := 0) hx hb dX6_layLock_32 (by decide) ?_
  refine lv_dup2_11 hx hb dX6_layLock_33 rfl rfl ?_
  refine x_iald C hR 76 rfl (x_in rfl) (n := 0) rfl (sA (pA (pA (pA σ 76 (((6 + (3 * (sA σ 76 0))) + 0).toNatClampNeg) x1) 76 (((6 + (3 * (sA σ 76 0))) + 1).toNatClampNeg) x2) 76 (((6 + (3 * (sA σ 76 0))) + 2).toNatClampNeg) x3) 76 0) rfl dX6_layLock_34 ?_
  refine lv_iconst (v := 1) hx hb dX6_layLock_35 (by decide) ?_
  refine lv_iadd hx hb dX6_layLock_36 ?_
  refine x_iast C hR hS 76 rfl (x_in rfl) (n := 0) rfl dX6_layLock_37 (fun H locs hR hS => ?_)
  obtain rfl := Option.some.inj hf
  exact x_vret C hR hS dX6_layLock_38 rfl
def f_X6_layLock_87 (x1 : Int32) (x2 : Int32) (x3 : Int32) (σ : St) : Option (St) :=
  gd (((6 + (3 * (sA σ 87 0))) + 0) < 0 ∨ 42 ≤ ((6 + (3 * (sA σ 87 0))) + 0).toNatClampNeg) (gd (((6 + (3 * (sA σ 87 0))) + 1) < 0 ∨ 42 ≤ ((6 + (3 * (sA σ 87 0))) + 1).toNatClampNeg) (gd (((6 + (3 * (sA σ 87 0))) + 2) < 0 ∨ 42 ≤ ((6 + (3 * (sA σ 87 0))) + 2).toNatClampNeg) (some (pA (pA (pA (pA σ 87 (((6 + (3 * (sA σ 87 0))) + 0).toNatClampNeg) x1) 87 (((6 + (3 * (sA σ 87 0))) + 1).toNatClampNeg) x2) 87 (((6 + (3 * (sA σ 87 0))) + 2).toNatClampNeg) x3) 87 0 ((sA (pA (pA (pA σ 87 (((6 + (3 * (sA σ 87 0))) + 0).toNatClampNeg) x1) 87 (((6 + (3 * (sA σ 87 0))) + 1).toNatClampNeg) x2) 87 (((6 + (3 * (sA σ 87 0))) + 2).toNatClampNeg) x3) 87 0) + 1)))))
set_option maxHeartbeats 4000000 in
set_option maxRecDepth 100000 in
theorem c_X6_layLock_87 (l : Launch) (G : GG) (x1 : Int32) (x2 : Int32) (x3 : Int32) (σ : St) (res : St) (hf : f_X6_layLock_87 x1 x2 x3 σ = some res) : CV l yX6_layLock wsX6_layLock 0 [.ref (G.2.1 87), .int x1, .int x2, .int x3] G σ (fun u => u = res) := by
  refine x_ent (ret := none) cX6_layLock 5 (by decide) rfl (Nat.le_of_ble_eq_true rfl) ?_
  intro p e s m below meth c ls C hR hS hl
  have C : Cx p s m [.ref (G.2.1 87), .int x1, .int x2, .int x3].toArray meth c cX6_layLock RX6 wsX6_layLock none 5 G := C
  have hx := C.1
  have hb := C.2.1
  have hl : lv_has ls 5 [(0, .ref (G.2.1 87)), (1, .int x1), (2, .int x2), (3, .int x3)] := hl
  unfold f_X6_layLock_87 at hf
  refine lv_bipush (v := 6) hx hb dX6_layLock_0 (by decide) ?_
  refine lv_iconst (v := 3) hx hb dX6_layLock_2 (by decide) ?_
  refine lv_aload_n hx hb dX6_layLock_3 rfl (lv_at hl 0 rfl) ?_
  refine lv_iconst (v := 0) hx hb dX6_layLock_4 (by decide) ?_
  refine x_iald C hR 87 rfl (x_in rfl) (n := 0) rfl (sA σ 87 0) rfl dX6_layLock_5 ?_
  refine lv_imul hx hb dX6_layLock_6 ?_
  refine lv_iadd hx hb dX6_layLock_7 ?_
  refine lv_istore (lv' := [(4, .int (6 + (3 * (sA σ 87 0)))), (0, .ref (G.2.1 87)), (1, .int x1), (2, .int x2), (3, .int x3)]) hx hb dX6_layLock_8 hl (by decide) rfl (fun ls hl => ?_)
  refine lv_aload_n hx hb dX6_layLock_10 rfl (lv_at hl 1 rfl) ?_
  refine lv_iload hx hb dX6_layLock_11 (lv_at hl 0 rfl) ?_
  refine lv_iconst (v := 0) hx hb dX6_layLock_13 (by decide) ?_
  refine lv_iadd hx hb dX6_layLock_14 ?_
  refine lv_iload_n hx hb dX6_layLock_15 rfl (lv_at hl 2 rfl) ?_
  obtain ⟨z_16, hf⟩ := gd_some hf
  refine x_iast C hR hS 87 rfl z_16 (n := ((6 + (3 * (sA σ 87 0))) + 0).toNatClampNeg) rfl dX6_layLock_16 (fun H locs hR hS => ?_)
  refine lv_aload_n hx hb dX6_layLock_17 rfl (lv_at hl 1 rfl) ?_
  refine lv_iload hx hb dX6_layLock_18 (lv_at hl 0 rfl) ?_
  refine lv_iconst (v := 1) hx hb dX6_layLock_20 (by decide) ?_
  refine lv_iadd hx hb dX6_layLock_21 ?_
  refine lv_iload_n hx hb dX6_layLock_22 rfl (lv_at hl 3 rfl) ?_
  obtain ⟨z_23, hf⟩ := gd_some hf
  refine x_iast C hR hS 87 rfl z_23 (n := ((6 + (3 * (sA σ 87 0))) + 1).toNatClampNeg) rfl dX6_layLock_23 (fun H locs hR hS => ?_)
  refine lv_aload_n hx hb dX6_layLock_24 rfl (lv_at hl 1 rfl) ?_
  refine lv_iload hx hb dX6_layLock_25 (lv_at hl 0 rfl) ?_
  refine lv_iconst (v := 2) hx hb dX6_layLock_27 (by decide) ?_
  refine lv_iadd hx hb dX6_layLock_28 ?_
  refine lv_iload_n hx hb dX6_layLock_29 rfl (lv_at hl 4 rfl) ?_
  obtain ⟨z_30, hf⟩ := gd_some hf
  refine x_iast C hR hS 87 rfl z_30 (n := ((6 + (3 * (sA σ 87 0))) + 2).toNatClampNeg) rfl dX6_layLock_30 (fun H locs hR hS => ?_)
  refine lv_aload_n hx hb dX6_layLock_31 rfl (lv_at hl 1 rfl) ?_
  refine lv_iconst (v := 0) hx hb dX6_layLock_32 (by decide) ?_
  refine lv_dup2_11 hx hb dX6_layLock_33 rfl rfl ?_
  refine x_iald C hR 87 rfl (x_in rfl) (n := 0) rfl (sA (pA (pA (pA σ 87 (((6 + (3 * (sA σ 87 0))) + 0).toNatClampNeg) x1) 87 (((6 + (3 * (sA σ 87 0))) + 1).toNatClampNeg) x2) 87 (((6 + (3 * (sA σ 87 0))) + 2).toNatClampNeg) x3) 87 0) rfl dX6_layLock_34 ?_
  refine lv_iconst (v := 1) hx hb dX6_layLock_35 (by decide) ?_
  refine lv_iadd hx hb dX6_layLock_36 ?_
  refine x_iast C hR hS 87 rfl (x_in rfl) (n := 0) rfl dX6_layLock_37 (fun H locs hR hS => ?_)
  obtain rfl := Option.some.inj hf
  exact x_vret C hR hS dX6_layLock_38 rfl
theorem hdV_X6_lock : yX6_lock.cls = RX6 ∧ yX6_lock.cls ≠ "java/lang/invoke/MethodHandle" ∧ yX6_lock.cls ≠ "java/lang/invoke/VarHandle" ∧ (parseMethodDescriptor yX6_lock.desc).map (fun d => d.parameters.length) = some 3 := by decide +kernel
def f_X6_lock (x1 : Int32) (x2 : Int32) (x3 : Int32) (σ : St) : Option (Int32 × St) :=
  bd (f_X6_in x1.toInt64 0 5 σ) (fun r6 σ6 => (if r6 = 0 then bd (f_X6_bad (-2) σ6) (fun r37 σ37 => some (r37, σ37)) else bd (f_X6_in x2.toInt64 0 1 σ6) (fun r16 σ16 => (if r16 = 0 then bd (f_X6_bad (-2) σ16) (fun r37 σ37 => some (r37, σ37)) else bd (f_X6_in x3.toInt64 1 20 σ16) (fun r28 σ28 => (if r28 = 0 then bd (f_X6_bad (-2) σ28) (fun r37 σ37 => some (r37, σ37)) else bd (f_X6_locks σ28) (fun r42 σ42 => (if r42 = 8 then bd (f_X6_full σ42) (fun r51 σ51 => some (r51, σ51)) else bv (f_X6_layLock_76 x1 x2 x3 σ42) (fun σ62 => bd (f_X6_locks (pA σ62 76 5 0)) (fun r73 σ73 => some (r73 - 1, σ73)))))))))))
set_option maxHeartbeats 4000000 in
set_option maxRecDepth 100000 in
theorem c_X6_lock (l : Launch) (G : GG) (x1 : Int32) (x2 : Int32) (x3 : Int32) (σ : St) (res : Int32 × St) (hf : f_X6_lock x1 x2 x3 σ = some res) : CI l yX6_lock wsX6_lock 1 [.ref (G.2.1 75), .int x1, .int x2, .int x3] G σ (fun r u => r = res.1 ∧ u = res.2) := by
  refine x_ent (ret := (some .int)) cX6_lock 4 (by decide) rfl (Nat.le_of_ble_eq_true rfl) ?_
  intro p e s m below meth c ls C hR hS hl
  have C : Cx p s m [.ref (G.2.1 75), .int x1, .int x2, .int x3].toArray meth c cX6_lock RX6 wsX6_lock (some .int) 4 G := C
  have hx := C.1
  have hb := C.2.1
  have hl : lv_has ls 4 [(0, .ref (G.2.1 75)), (1, .int x1), (2, .int x2), (3, .int x3)] := hl
  have inX6 : ∀ w ∈ u_ws RX6 TX6 22, w ∈ wsX6_lock := fun w h => List.mem_cons_of_mem _ (List.mem_append_right _ h)
  unfold f_X6_lock at hf
  refine lv_iload_n hx hb dX6_lock_0 rfl (lv_at hl 1 rfl) ?_
  refine lv_i2l (v := x1.toInt64) hx hb dX6_lock_1 rfl ?_
  refine lv_lconst (v := 0) hx hb dX6_lock_2 (by decide) ?_
  refine lv_ldc2 (v := 5) hx hb C.2.2.2.2.1 (C.2.2.2.2.2.1 _ (List.mem_of_getElem? (i := 1) rfl)) dX6_lock_3 ?_
  obtain ⟨r6_, σ6_, hc_6, hf⟩ := bd_some hf
  refine x_csI C hl.1 hR hS (c_X6_in l G x1.toInt64 0 5 σ _ hc_6) gX6_lock_X6_in rfl hdS_X6_in ⟨Nat.le_of_ble_eq_true rfl, Nat.le_of_ble_eq_true rfl⟩ rfl (As := [.long x1.toInt64, .long 0, .long 5]) (rest := []) rfl (Nat.le_of_ble_eq_true rfl) ⟨Nat.le_of_ble_eq_true rfl, Nat.le_of_ble_eq_true rfl⟩ dX6_lock_6 (fun r6 σ6 H locs hq_6 hR hS => ?_)
  obtain ⟨rfl, rfl⟩ := hq_6
  refine lv_if_eq (tgt := 34) hx hb dX6_lock_9 (by decide) (fun c_9 => ?_) (fun c_9 => ?_)
  · replace hf := (if_pos c_9).symm.trans hf
    refine lv_aload_n hx hb dX6_lock_34 rfl (lv_at hl 0 rfl) ?_
    refine lv_bipush (v := (-2)) hx hb dX6_lock_35 (by decide) ?_
    obtain ⟨r37_, σ37_, hc_37, hf⟩ := bd_some hf
    refine x_cvI C hl.1 hR hS (c_X6_bad l G (-2) σ6 _ hc_37) gX6_lock_X6_bad rfl hdV_X6_bad ⟨Nat.le_of_ble_eq_true rfl, Nat.le_of_ble_eq_true rfl⟩ (by decide) (cz5 rfl) rfl rfl (As := [.int (-2)]) (rest := []) rfl (Nat.le_of_ble_eq_true rfl) ⟨Nat.le_of_ble_eq_true rfl, Nat.le_of_ble_eq_true rfl⟩ dX6_lock_37 (fun r37 σ37 H locs hq_37 hR hS => ?_)
    obtain ⟨rfl, rfl⟩ := hq_37
    obtain rfl := Option.some.inj hf
    exact x_iret C hR hS dX6_lock_40 ⟨rfl, rfl⟩
  · replace hf := (if_neg c_9).symm.trans hf
    refine lv_iload_n hx hb dX6_lock_12 rfl (lv_at hl 2 rfl) ?_
    refine lv_i2l (v := x2.toInt64) hx hb dX6_lock_13 rfl ?_
    refine lv_lconst (v := 0) hx hb dX6_lock_14 (by decide) ?_
    refine lv_lconst (v := 1) hx hb dX6_lock_15 (by decide) ?_
    obtain ⟨r16_, σ16_, hc_16, hf⟩ := bd_some hf
    refine x_csI C hl.1 hR hS (c_X6_in l G x2.toInt64 0 1 σ6 _ hc_16) gX6_lock_X6_in rfl hdS_X6_in ⟨Nat.le_of_ble_eq_true rfl, Nat.le_of_ble_eq_true rfl⟩ rfl (As := [.long x2.toInt64, .long 0, .long 1]) (rest := []) rfl (Nat.le_of_ble_eq_true rfl) ⟨Nat.le_of_ble_eq_true rfl, Nat.le_of_ble_eq_true rfl⟩ dX6_lock_16 (fun r16 σ16 H locs hq_16 hR hS => ?_)
    obtain ⟨rfl, rfl⟩ := hq_16
    refine lv_if_eq (tgt := 34) hx hb dX6_lock_19 (by decide) (fun c_19 => ?_) (fun c_19 => ?_)
    · replace hf := (if_pos c_19).symm.trans hf
      refine lv_aload_n hx hb dX6_lock_34 rfl (lv_at hl 0 rfl) ?_
      refine lv_bipush (v := (-2)) hx hb dX6_lock_35 (by decide) ?_
      obtain ⟨r37_, σ37_, hc_37, hf⟩ := bd_some hf
      refine x_cvI C hl.1 hR hS (c_X6_bad l G (-2) σ16 _ hc_37) gX6_lock_X6_bad rfl hdV_X6_bad ⟨Nat.le_of_ble_eq_true rfl, Nat.le_of_ble_eq_true rfl⟩ (by decide) (cz5 rfl) rfl rfl (As := [.int (-2)]) (rest := []) rfl (Nat.le_of_ble_eq_true rfl) ⟨Nat.le_of_ble_eq_true rfl, Nat.le_of_ble_eq_true rfl⟩ dX6_lock_37 (fun r37 σ37 H locs hq_37 hR hS => ?_)
      obtain ⟨rfl, rfl⟩ := hq_37
      obtain rfl := Option.some.inj hf
      exact x_iret C hR hS dX6_lock_40 ⟨rfl, rfl⟩
    · replace hf := (if_neg c_19).symm.trans hf
      refine lv_iload_n hx hb dX6_lock_22 rfl (lv_at hl 3 rfl) ?_
      refine lv_i2l (v := x3.toInt64) hx hb dX6_lock_23 rfl ?_
      refine lv_lconst (v := 1) hx hb dX6_lock_24 (by decide) ?_
      refine lv_ldc2 (v := 20) hx hb C.2.2.2.2.1 (C.2.2.2.2.2.1 _ (List.mem_of_getElem? (i := 2) rfl)) dX6_lock_25 ?_
      obtain ⟨r28_, σ28_, hc_28, hf⟩ := bd_some hf
      refine x_csI C hl.1 hR hS (c_X6_in l G x3.toInt64 1 20 σ16 _ hc_28) gX6_lock_X6_in rfl hdS_X6_in ⟨Nat.le_of_ble_eq_true rfl, Nat.le_of_ble_eq_true rfl⟩ rfl (As := [.long x3.toInt64, .long 1, .long 20]) (rest := []) rfl (Nat.le_of_ble_eq_true rfl) ⟨Nat.le_of_ble_eq_true rfl, Nat.le_of_ble_eq_true rfl⟩ dX6_lock_28 (fun r28 σ28 H locs hq_28 hR hS => ?_)
      obtain ⟨rfl, rfl⟩ := hq_28
      refine lv_if_ne (tgt := 41) hx hb dX6_lock_31 (by decide) (fun c_31 => ?_) (fun c_31 => ?_)
      · replace hf := (if_neg c_31).symm.trans hf
        refine lv_aload_n hx hb dX6_lock_41 rfl (lv_at hl 0 rfl) ?_
        obtain ⟨r42_, σ42_, hc_42, hf⟩ := bd_some hf
        refine x_cvI C hl.1 hR hS (c_X6_locks l G σ28 _ hc_42) gX6_lock_X6_locks rfl hdV_X6_locks ⟨Nat.le_of_ble_eq_true rfl, Nat.le_of_ble_eq_true rfl⟩ (by decide) (cz5 rfl) rfl rfl (As := []) (rest := []) rfl (Nat.le_of_ble_eq_true rfl) ⟨Nat.le_of_ble_eq_true rfl, Nat.le_of_ble_eq_true rfl⟩ dX6_lock_42 (fun r42 σ42 H locs hq_42 hR hS => ?_)
        obtain ⟨rfl, rfl⟩ := hq_42
        refine lv_bipush (v := 8) hx hb dX6_lock_45 (by decide) ?_
        refine lv_icmp_ne (tgt := 55) hx hb dX6_lock_47 (by decide) (fun c_47 => ?_) (fun c_47 => ?_)
        · replace hf := (if_neg c_47).symm.trans hf
          refine lv_aload_n hx hb dX6_lock_55 rfl (lv_at hl 0 rfl) ?_
          refine x_get C hR inX6 75 (by decide) (cz5 rfl) rfl 0 (by decide) 3 rfl (.ref (G.2.1 76)) rfl dX6_lock_56 ?_
          refine lv_iload_n hx hb dX6_lock_59 rfl (lv_at hl 1 rfl) ?_
          refine lv_iload_n hx hb dX6_lock_60 rfl (lv_at hl 2 rfl) ?_
          refine lv_iload_n hx hb dX6_lock_61 rfl (lv_at hl 3 rfl) ?_
          obtain ⟨σ62_, hc_62, hf⟩ := bv_some hf
          refine x_csV C hl.1 hR hS (c_X6_layLock_76 l G x1 x2 x3 σ42 _ hc_62) gX6_lock_X6_layLock rfl hdS_X6_layLock ⟨Nat.le_of_ble_eq_true rfl, Nat.le_of_ble_eq_true rfl⟩ rfl (As := [.ref (G.2.1 76), .int x1, .int x2, .int x3]) (rest := []) rfl (Nat.le_of_ble_eq_true rfl) ⟨Nat.le_of_ble_eq_true rfl, Nat.le_of_ble_eq_true rfl⟩ dX6_lock_62 (fun σ62 H locs hq_62 hR hS => ?_)
          subst hq_62
          refine lv_aload_n hx hb dX6_lock_65 rfl (lv_at hl 0 rfl) ?_
          refine x_get C hR inX6 75 (by decide) (cz5 rfl) rfl 0 (by decide) 3 rfl (.ref (G.2.1 76)) rfl dX6_lock_66 ?_
          refine lv_iconst (v := 5) hx hb dX6_lock_69 (by decide) ?_
          refine lv_iconst (v := 0) hx hb dX6_lock_70 (by decide) ?_
          refine x_iast C hR hS 76 rfl (x_in rfl) (n := 5) rfl dX6_lock_71 (fun H locs hR hS => ?_)
          refine lv_aload_n hx hb dX6_lock_72 rfl (lv_at hl 0 rfl) ?_
          obtain ⟨r73_, σ73_, hc_73, hf⟩ := bd_some hf
          refine x_cvI C hl.1 hR hS (c_X6_locks l G (pA σ62 76 5 0) _ hc_73) gX6_lock_X6_locks rfl hdV_X6_locks ⟨Nat.le_of_ble_eq_true rfl, Nat.le_of_ble_eq_true rfl⟩ (by decide) (cz5 rfl) rfl rfl (As := []) (rest := []) rfl (Nat.le_of_ble_eq_true rfl) ⟨Nat.le_of_ble_eq_true rfl, Nat.le_of_ble_eq_true rfl⟩ dX6_lock_73 (fun r73 σ73 H locs hq_73 hR hS => ?_)
          obtain ⟨rfl, rfl⟩ := hq_73
          refine lv_iconst (v := 1) hx hb dX6_lock_76 (by decide) ?_
          refine lv_isub hx hb dX6_lock_77 ?_
          obtain rfl := Option.some.inj hf
          exact x_iret C hR hS dX6_lock_78 ⟨rfl, rfl⟩
        · replace hf := (if_pos c_47).symm.trans hf
          refine lv_aload_n hx hb dX6_lock_50 rfl (lv_at hl 0 rfl) ?_
          obtain ⟨r51_, σ51_, hc_51, hf⟩ := bd_some hf
          refine x_cvI C hl.1 hR hS (c_X6_full l G σ42 _ hc_51) gX6_lock_X6_full rfl hdV_X6_full ⟨Nat.le_of_ble_eq_true rfl, Nat.le_of_ble_eq_true rfl⟩ (by decide) (cz5 rfl) rfl rfl (As := []) (rest := []) rfl (Nat.le_of_ble_eq_true rfl) ⟨Nat.le_of_ble_eq_true rfl, Nat.le_of_ble_eq_true rfl⟩ dX6_lock_51 (fun r51 σ51 H locs hq_51 hR hS => ?_)
          obtain ⟨rfl, rfl⟩ := hq_51
          obtain rfl := Option.some.inj hf
          exact x_iret C hR hS dX6_lock_54 ⟨rfl, rfl⟩
      · replace hf := (if_pos c_31).symm.trans hf
        refine lv_aload_n hx hb dX6_lock_34 rfl (lv_at hl 0 rfl) ?_
        refine lv_bipush (v := (-2)) hx hb dX6_lock_35 (by decide) ?_
        obtain ⟨r37_, σ37_, hc_37, hf⟩ := bd_some hf
        refine x_cvI C hl.1 hR hS (c_X6_bad l G (-2) σ28 _ hc_37) gX6_lock_X6_bad rfl hdV_X6_bad ⟨Nat.le_of_ble_eq_true rfl, Nat.le_of_ble_eq_true rfl⟩ (by decide) (cz5 rfl) rfl rfl (As := [.int (-2)]) (rest := []) rfl (Nat.le_of_ble_eq_true rfl) ⟨Nat.le_of_ble_eq_true rfl, Nat.le_of_ble_eq_true rfl⟩ dX6_lock_37 (fun r37 σ37 H locs hq_37 hR hS => ?_)
        obtain ⟨rfl, rfl⟩ := hq_37
        obtain rfl := Option.some.inj hf
        exact x_iret C hR hS dX6_lock_40 ⟨rfl, rfl⟩
theorem hdV_X6_strength : yX6_strength.cls = RX6 ∧ yX6_strength.cls ≠ "java/lang/invoke/MethodHandle" ∧ yX6_strength.cls ≠ "java/lang/invoke/VarHandle" ∧ (parseMethodDescriptor yX6_strength.desc).map (fun d => d.parameters.length) = some 1 := by decide +kernel
def f_X6_strength (x1 : Int32) (σ : St) : Option (Int32 × St) :=
  bd (f_X6_in x1.toInt64 0 9 σ) (fun r6 σ6 => (if r6 = 0 then bd (f_X6_bad (-2) σ6) (fun r15 σ15 => some (r15, σ15)) else some (sA σ6 76 1, (pA σ6 76 1 x1))))
set_option maxHeartbeats 4000000 in
set_option maxRecDepth 100000 in
theorem c_X6_strength (l : Launch) (G : GG) (x1 : Int32) (σ : St) (res : Int32 × St) (hf : f_X6_strength x1 σ = some res) : CI l yX6_strength wsX6_strength 1 [.ref (G.2.1 75), .int x1] G σ (fun r u => r = res.1 ∧ u = res.2) := by
  refine x_ent (ret := (some .int)) cX6_strength 3 (by decide) rfl (Nat.le_of_ble_eq_true rfl) ?_
  intro p e s m below meth c ls C hR hS hl
  have C : Cx p s m [.ref (G.2.1 75), .int x1].toArray meth c cX6_strength RX6 wsX6_strength (some .int) 3 G := C
  have hx := C.1
  have hb := C.2.1
  have hl : lv_has ls 3 [(0, .ref (G.2.1 75)), (1, .int x1)] := hl
  have inX6 : ∀ w ∈ u_ws RX6 TX6 22, w ∈ wsX6_strength := fun w h => List.mem_cons_of_mem _ (List.mem_append_right _ h)
  unfold f_X6_strength at hf
  refine lv_iload_n hx hb dX6_strength_0 rfl (lv_at hl 1 rfl) ?_
  refine lv_i2l (v := x1.toInt64) hx hb dX6_strength_1 rfl ?_
  refine lv_lconst (v := 0) hx hb dX6_strength_2 (by decide) ?_
  refine lv_ldc2 (v := 9) hx hb C.2.2.2.2.1 (C.2.2.2.2.2.1 _ (List.mem_of_getElem? (i := 1) rfl)) dX6_strength_3 ?_
  obtain ⟨r6_, σ6_, hc_6, hf⟩ := bd_some hf
  refine x_csI C hl.1 hR hS (c_X6_in l G x1.toInt64 0 9 σ _ hc_6) gX6_strength_X6_in rfl hdS_X6_in ⟨Nat.le_of_ble_eq_true rfl, Nat.le_of_ble_eq_true rfl⟩ rfl (As := [.long x1.toInt64, .long 0, .long 9]) (rest := []) rfl (Nat.le_of_ble_eq_true rfl) ⟨Nat.le_of_ble_eq_true rfl, Nat.le_of_ble_eq_true rfl⟩ dX6_strength_6 (fun r6 σ6 H locs hq_6 hR hS => ?_)
  obtain ⟨rfl, rfl⟩ := hq_6
  refine lv_if_ne (tgt := 19) hx hb dX6_strength_9 (by decide) (fun c_9 => ?_) (fun c_9 => ?_)
  · replace hf := (if_neg c_9).symm.trans hf
    refine lv_aload_n hx hb dX6_strength_19 rfl (lv_at hl 0 rfl) ?_
    refine x_get C hR inX6 75 (by decide) (cz5 rfl) rfl 0 (by decide) 2 rfl (.ref (G.2.1 76)) rfl dX6_strength_20 ?_
    refine lv_iconst (v := 1) hx hb dX6_strength_23 (by decide) ?_
    refine x_iald C hR 76 rfl (x_in rfl) (n := 1) rfl (sA σ6 76 1) rfl dX6_strength_24 ?_
    refine lv_istore_n (lv' := [(2, .int (sA σ6 76 1)), (0, .ref (G.2.1 75)), (1, .int x1)]) hx hb dX6_strength_25 rfl hl (by decide) rfl (fun ls hl => ?_)
    refine lv_aload_n hx hb dX6_strength_26 rfl (lv_at hl 1 rfl) ?_
    refine x_get C hR inX6 75 (by decide) (cz5 rfl) rfl 0 (by decide) 2 rfl (.ref (G.2.1 76)) rfl dX6_strength_27 ?_
    refine lv_iconst (v := 1) hx hb dX6_strength_30 (by decide) ?_
    refine lv_iload_n hx hb dX6_strength_31 rfl (lv_at hl 2 rfl) ?_
    refine x_iast C hR hS 76 rfl (x_in rfl) (n := 1) rfl dX6_strength_32 (fun H locs hR hS => ?_)
    refine lv_iload_n hx hb dX6_strength_33 rfl (lv_at hl 0 rfl) ?_
    obtain rfl := Option.some.inj hf
    exact x_iret C hR hS dX6_strength_34 ⟨rfl, rfl⟩
  · replace hf := (if_pos c_9).symm.trans hf
    refine lv_aload_n hx hb dX6_strength_12 rfl (lv_at hl 0 rfl) ?_
    refine lv_bipush (v := (-2)) hx hb dX6_strength_13 (by decide) ?_
    obtain ⟨r15_, σ15_, hc_15, hf⟩ := bd_some hf
    refine x_cvI C hl.1 hR hS (c_X6_bad l G (-2) σ6 _ hc_15) gX6_strength_X6_bad rfl hdV_X6_bad ⟨Nat.le_of_ble_eq_true rfl, Nat.le_of_ble_eq_true rfl⟩ (by decide) (cz5 rfl) rfl rfl (As := [.int (-2)]) (rest := []) rfl (Nat.le_of_ble_eq_true rfl) ⟨Nat.le_of_ble_eq_true rfl, Nat.le_of_ble_eq_true rfl⟩ dX6_strength_15 (fun r15 σ15 H locs hq_15 hR hS => ?_)
    obtain ⟨rfl, rfl⟩ := hq_15
    obtain rfl := Option.some.inj hf
    exact x_iret C hR hS dX6_strength_18 ⟨rfl, rfl⟩
theorem hdV_X6_keep : yX6_keep.cls = RX6 ∧ yX6_keep.cls ≠ "java/lang/invoke/MethodHandle" ∧ yX6_keep.cls ≠ "java/lang/invoke/VarHandle" ∧ (parseMethodDescriptor yX6_keep.desc).map (fun d => d.parameters.length) = some 0 := by decide +kernel
def f_X6_keep_66 : Nat → Int32 → Int32 → St → Option (St)
  | 0, _, _, _ => none
  | n + 1, x1, x2, σ => (if 8 ≤ x2 then gd ((x1 + 8) < 0 ∨ 122 ≤ (x1 + 8).toNatClampNeg) (gd ((x1 + 9) < 0 ∨ 122 ≤ (x1 + 9).toNatClampNeg) (some (pA (pA (pA σ 76 ((x1 + 8).toNatClampNeg) (sA σ 76 2)) 76 ((x1 + 9).toNatClampNeg) (sA (pA σ 76 ((x1 + 8).toNatClampNeg) (sA σ 76 2)) 76 3)) 76 5 ((sA (pA (pA σ 76 ((x1 + 8).toNatClampNeg) (sA σ 76 2)) 76 ((x1 + 9).toNatClampNeg) (sA (pA σ 76 ((x1 + 8).toNatClampNeg) (sA σ 76 2)) 76 3)) 76 5) + 1)))) else bd (f_X6_get x2 1 σ) (fun r82 σ82 => gd ((x1 + x2) < 0 ∨ 122 ≤ (x1 + x2).toNatClampNeg) ((f_X6_keep_66 n) x1 (x2 + 1) (pA σ82 76 ((x1 + x2).toNatClampNeg) r82))))
def f_X6_keep_51 (σ : St) : Option (St) :=
  f_X6_keep_66 FU (42 + (10 * (sA σ 76 5))) 0 σ
def f_X6_keep_13 : Nat → Int32 → St → Option (St)
  | 0, _, _ => none
  | n + 1, x1, σ => (if 70 ≤ x1 then f_X6_keep_51 (pA σ 76 5 7) else gd ((52 + x1) < 0 ∨ 122 ≤ (52 + x1).toNatClampNeg) (gd ((42 + x1) < 0 ∨ 122 ≤ (42 + x1).toNatClampNeg) ((f_X6_keep_13 n) (x1 + 1) (pA σ 76 ((42 + x1).toNatClampNeg) (sA σ 76 ((52 + x1).toNatClampNeg))))))
def f_X6_keep (σ : St) : Option (St) :=
  (if (sA σ 76 5) = 8 then f_X6_keep_13 FU 0 σ else f_X6_keep_51 σ)
set_option maxHeartbeats 4000000 in
set_option maxRecDepth 100000 in
theorem w_X6_keep_66 {p : Program} {l : Launch} {e : Env} {s : State} {m : MethodId} {args : Array Value} {below : List Frame} {meth : Method} {c : Code} {G : GG} (C : Cx p s m args meth c cX6_keep RX6 wsX6_keep none 3 G) {res : St} : ∀ (n : Nat) (x1 : Int32) (x2 : Int32) (σ : St), f_X6_keep_66 n x1 x2 σ = some res → WC p l e 1 s m args below meth c G (QV G res) 3 66 [(0, .ref (G.2.1 75)), (1, .int x1), (2, .int x2)] [] σ := by
  have hx := C.1
  have hb := C.2.1
  have inX6 : ∀ w ∈ u_ws RX6 TX6 22, w ∈ wsX6_keep := fun w h => List.mem_cons_of_mem _ (List.mem_append_right _ h)
  intro n
  induction n with
  | zero => intro x1 x2 σ hf; cases hf
  | succ n hrc66 =>
    intro x1 x2 σ hf _ _ _ hR hS hl
    unfold f_X6_keep_66 at hf
    refine lv_iload_n hx hb dX6_keep_66 rfl (lv_at hl 2 rfl) ?_
    refine lv_bipush (v := 8) hx hb dX6_keep_67 (by decide) ?_
    refine lv_icmp_ge (tgt := 92) hx hb dX6_keep_69 (by decide) (fun c_69 => ?_) (fun c_69 => ?_)
    · replace hf := (if_pos c_69).symm.trans hf
      refine lv_aload_n hx hb dX6_keep_92 rfl (lv_at hl 0 rfl) ?_
      refine x_get C hR inX6 75 (by decide) (cz5 rfl) rfl 0 (by decide) 1 rfl (.ref (G.2.1 76)) rfl dX6_keep_93 ?_
      refine lv_iload_n hx hb dX6_keep_96 rfl (lv_at hl 1 rfl) ?_
      refine lv_bipush (v := 8) hx hb dX6_keep_97 (by decide) ?_
      refine lv_iadd hx hb dX6_keep_99 ?_
      refine lv_aload_n hx hb dX6_keep_100 rfl (lv_at hl 0 rfl) ?_
      refine x_get C hR inX6 75 (by decide) (cz5 rfl) rfl 0 (by decide) 1 rfl (.ref (G.2.1 76)) rfl dX6_keep_101 ?_
      refine lv_iconst (v := 2) hx hb dX6_keep_104 (by decide) ?_
      refine x_iald C hR 76 rfl (x_in rfl) (n := 2) rfl (sA σ 76 2) rfl dX6_keep_105 ?_
      obtain ⟨z_106, hf⟩ := gd_some hf
      refine x_iast C hR hS 76 rfl z_106 (n := (x1 + 8).toNatClampNeg) rfl dX6_keep_106 (fun H locs hR hS => ?_)
      refine lv_aload_n hx hb dX6_keep_107 rfl (lv_at hl 0 rfl) ?_
      refine x_get C hR inX6 75 (by decide) (cz5 rfl) rfl 0 (by decide) 1 rfl (.ref (G.2.1 76)) rfl dX6_keep_108 ?_
      refine lv_iload_n hx hb dX6_keep_111 rfl (lv_at hl 1 rfl) ?_
      refine lv_bipush (v := 9) hx hb dX6_keep_112 (by decide) ?_
      refine lv_iadd hx hb dX6_keep_114 ?_
      refine lv_aload_n hx hb dX6_keep_115 rfl (lv_at hl 0 rfl) ?_
      refine x_get C hR inX6 75 (by decide) (cz5 rfl) rfl 0 (by decide) 1 rfl (.ref (G.2.1 76)) rfl dX6_keep_116 ?_
      refine lv_iconst (v := 3) hx hb dX6_keep_119 (by decide) ?_
      refine x_iald C hR 76 rfl (x_in rfl) (n := 3) rfl (sA (pA σ 76 ((x1 + 8).toNatClampNeg) (sA σ 76 2)) 76 3) rfl dX6_keep_120 ?_
      obtain ⟨z_121, hf⟩ := gd_some hf
      refine x_iast C hR hS 76 rfl z_121 (n := (x1 + 9).toNatClampNeg) rfl dX6_keep_121 (fun H locs hR hS => ?_)
      refine lv_aload_n hx hb dX6_keep_122 rfl (lv_at hl 0 rfl) ?_
      refine x_get C hR inX6 75 (by decide) (cz5 rfl) rfl 0 (by decide) 1 rfl (.ref (G.2.1 76)) rfl dX6_keep_123 ?_
      refine lv_iconst (v := 5) hx hb dX6_keep_126 (by decide) ?_
      refine lv_dup2_11 hx hb dX6_keep_127 rfl rfl ?_
      refine x_iald C hR 76 rfl (x_in rfl) (n := 5) rfl (sA (pA (pA σ 76 ((x1 + 8).toNatClampNeg) (sA σ 76 2)) 76 ((x1 + 9).toNatClampNeg) (sA (pA σ 76 ((x1 + 8).toNatClampNeg) (sA σ 76 2)) 76 3)) 76 5) rfl dX6_keep_128 ?_
      refine lv_iconst (v := 1) hx hb dX6_keep_129 (by decide) ?_
      refine lv_iadd hx hb dX6_keep_130 ?_
      refine x_iast C hR hS 76 rfl (x_in rfl) (n := 5) rfl dX6_keep_131 (fun H locs hR hS => ?_)
      obtain rfl := Option.some.inj hf
      exact x_vret C hR hS dX6_keep_132 rfl
    · replace hf := (if_neg c_69).symm.trans hf
      refine lv_aload_n hx hb dX6_keep_72 rfl (lv_at hl 0 rfl) ?_
      refine x_get C hR inX6 75 (by decide) (cz5 rfl) rfl 0 (by decide) 1 rfl (.ref (G.2.1 76)) rfl dX6_keep_73 ?_
      refine lv_iload_n hx hb dX6_keep_76 rfl (lv_at hl 1 rfl) ?_
      refine lv_iload_n hx hb dX6_keep_77 rfl (lv_at hl 2 rfl) ?_
      refine lv_iadd hx hb dX6_keep_78 ?_
      refine lv_aload_n hx hb dX6_keep_79 rfl (lv_at hl 0 rfl) ?_
      refine lv_iload_n hx hb dX6_keep_80 rfl (lv_at hl 2 rfl) ?_
      refine lv_iconst (v := 1) hx hb dX6_keep_81 (by decide) ?_
      obtain ⟨r82_, σ82_, hc_82, hf⟩ := bd_some hf
      refine x_cvI C hl.1 hR hS (c_X6_get l G x2 1 σ _ hc_82) gX6_keep_X6_get rfl hdV_X6_get ⟨Nat.le_of_ble_eq_true rfl, Nat.le_of_ble_eq_true rfl⟩ (by decide) (cz5 rfl) rfl rfl (As := [.int x2, .int 1]) (rest := [.int (x1 + x2), .ref (G.2.1 76)]) rfl (Nat.le_of_ble_eq_true rfl) ⟨Nat.le_of_ble_eq_true rfl, Nat.le_of_ble_eq_true rfl⟩ dX6_keep_82 (fun r82 σ82 H locs hq_82 hR hS => ?_)
      obtain ⟨rfl, rfl⟩ := hq_82
      obtain ⟨z_85, hf⟩ := gd_some hf
      refine x_iast C hR hS 76 rfl z_85 (n := (x1 + x2).toNatClampNeg) rfl dX6_keep_85 (fun H locs hR hS => ?_)
      refine lv_iinc (v := x2 + 1) (lv' := [(2, .int (x2 + 1)), (0, .ref (G.2.1 75)), (1, .int x1)]) hx hb dX6_keep_86 hl (k := 2) rfl rfl (by decide) rfl (fun ls hl => ?_)
      refine lv_goto (tgt := 66) hx hb dX6_keep_89 (by decide) ?_
      exact hrc66 x1 (x2 + 1) _ hf _ _ _ hR hS (lv_sub hl [1, 2, 0] rfl)
set_option maxHeartbeats 4000000 in
set_option maxRecDepth 100000 in
theorem w_X6_keep_51 {p : Program} {l : Launch} {e : Env} {s : State} {m : MethodId} {args : Array Value} {below : List Frame} {meth : Method} {c : Code} {G : GG} (C : Cx p s m args meth c cX6_keep RX6 wsX6_keep none 3 G) {res : St} : ∀ (σ : St), f_X6_keep_51  σ = some res → WC p l e 1 s m args below meth c G (QV G res) 3 51 [(0, .ref (G.2.1 75))] [] σ := by
  have hx := C.1
  have hb := C.2.1
  have inX6 : ∀ w ∈ u_ws RX6 TX6 22, w ∈ wsX6_keep := fun w h => List.mem_cons_of_mem _ (List.mem_append_right _ h)
  intro  σ hf _ _ _ hR hS hl
  unfold f_X6_keep_51 at hf
  refine lv_bipush (v := 42) hx hb dX6_keep_51 (by decide) ?_
  refine lv_bipush (v := 10) hx hb dX6_keep_53 (by decide) ?_
  refine lv_aload_n hx hb dX6_keep_55 rfl (lv_at hl 0 rfl) ?_
  refine x_get C hR inX6 75 (by decide) (cz5 rfl) rfl 0 (by decide) 1 rfl (.ref (G.2.1 76)) rfl dX6_keep_56 ?_
  refine lv_iconst (v := 5) hx hb dX6_keep_59 (by decide) ?_
  refine x_iald C hR 76 rfl (x_in rfl) (n := 5) rfl (sA σ 76 5) rfl dX6_keep_60 ?_
  refine lv_imul hx hb dX6_keep_61 ?_
  refine lv_iadd hx hb dX6_keep_62 ?_
  refine lv_istore_n (lv' := [(1, .int (42 + (10 * (sA σ 76 5)))), (0, .ref (G.2.1 75))]) hx hb dX6_keep_63 rfl hl (by decide) rfl (fun ls hl => ?_)
  refine lv_iconst (v := 0) hx hb dX6_keep_64 (by decide) ?_
  refine lv_istore_n (lv' := [(2, .int 0), (1, .int (42 + (10 * (sA σ 76 5)))), (0, .ref (G.2.1 75))]) hx hb dX6_keep_65 rfl hl (by decide) rfl (fun ls hl => ?_)
  exact w_X6_keep_66 C  FU (42 + (10 * (sA σ 76 5))) 0 _ hf _ _ _ hR hS (lv_sub hl [2, 1, 0] rfl)
set_option maxHeartbeats 4000000 in
set_option maxRecDepth 100000 in
theorem w_X6_keep_13 {p : Program} {l : Launch} {e : Env} {s : State} {m : MethodId} {args : Array Value} {below : List Frame} {meth : Method} {c : Code} {G : GG} (C : Cx p s m args meth c cX6_keep RX6 wsX6_keep none 3 G) {res : St} : ∀ (n : Nat) (x1 : Int32) (σ : St), f_X6_keep_13 n x1 σ = some res → WC p l e 1 s m args below meth c G (QV G res) 3 13 [(0, .ref (G.2.1 75)), (1, .int x1)] [] σ := by
  have hx := C.1
  have hb := C.2.1
  have inX6 : ∀ w ∈ u_ws RX6 TX6 22, w ∈ wsX6_keep := fun w h => List.mem_cons_of_mem _ (List.mem_append_right _ h)
  intro n
  induction n with
  | zero => intro x1 σ hf; cases hf
  | succ n hrc13 =>
    intro x1 σ hf _ _ _ hR hS hl
    unfold f_X6_keep_13 at hf
    refine lv_iload_n hx hb dX6_keep_13 rfl (lv_at hl 1 rfl) ?_
    refine lv_bipush (v := 70) hx hb dX6_keep_14 (by decide) ?_
    refine lv_icmp_ge (tgt := 43) hx hb dX6_keep_16 (by decide) (fun c_16 => ?_) (fun c_16 => ?_)
    · replace hf := (if_pos c_16).symm.trans hf
      refine lv_aload_n hx hb dX6_keep_43 rfl (lv_at hl 0 rfl) ?_
      refine x_get C hR inX6 75 (by decide) (cz5 rfl) rfl 0 (by decide) 1 rfl (.ref (G.2.1 76)) rfl dX6_keep_44 ?_
      refine lv_iconst (v := 5) hx hb dX6_keep_47 (by decide) ?_
      refine lv_bipush (v := 7) hx hb dX6_keep_48 (by decide) ?_
      refine x_iast C hR hS 76 rfl (x_in rfl) (n := 5) rfl dX6_keep_50 (fun H locs hR hS => ?_)
      exact w_X6_keep_51 C  _ hf _ _ _ hR hS (lv_sub hl [0] rfl)
    · replace hf := (if_neg c_16).symm.trans hf
      refine lv_aload_n hx hb dX6_keep_19 rfl (lv_at hl 0 rfl) ?_
      refine x_get C hR inX6 75 (by decide) (cz5 rfl) rfl 0 (by decide) 1 rfl (.ref (G.2.1 76)) rfl dX6_keep_20 ?_
      refine lv_bipush (v := 42) hx hb dX6_keep_23 (by decide) ?_
      refine lv_iload_n hx hb dX6_keep_25 rfl (lv_at hl 1 rfl) ?_
      refine lv_iadd hx hb dX6_keep_26 ?_
      refine lv_aload_n hx hb dX6_keep_27 rfl (lv_at hl 0 rfl) ?_
      refine x_get C hR inX6 75 (by decide) (cz5 rfl) rfl 0 (by decide) 1 rfl (.ref (G.2.1 76)) rfl dX6_keep_28 ?_
      refine lv_bipush (v := 52) hx hb dX6_keep_31 (by decide) ?_
      refine lv_iload_n hx hb dX6_keep_33 rfl (lv_at hl 1 rfl) ?_
      refine lv_iadd hx hb dX6_keep_34 ?_
      obtain ⟨z_35, hf⟩ := gd_some hf
      refine x_iald C hR 76 rfl z_35 (n := (52 + x1).toNatClampNeg) rfl (sA σ 76 ((52 + x1).toNatClampNeg)) rfl dX6_keep_35 ?_
      obtain ⟨z_36, hf⟩ := gd_some hf
      refine x_iast C hR hS 76 rfl z_36 (n := (42 + x1).toNatClampNeg) rfl dX6_keep_36 (fun H locs hR hS => ?_)
      refine lv_iinc (v := x1 + 1) (lv' := [(1, .int (x1 + 1)), (0, .ref (G.2.1 75))]) hx hb dX6_keep_37 hl (k := 1) rfl rfl (by decide) rfl (fun ls hl => ?_)
      refine lv_goto (tgt := 13) hx hb dX6_keep_40 (by decide) ?_
      exact hrc13 (x1 + 1) _ hf _ _ _ hR hS (lv_sub hl [1, 0] rfl)
set_option maxHeartbeats 4000000 in
set_option maxRecDepth 100000 in
theorem c_X6_keep (l : Launch) (G : GG) (σ : St) (res : St) (hf : f_X6_keep σ = some res) : CV l yX6_keep wsX6_keep 1 [.ref (G.2.1 75)] G σ (fun u => u = res) := by
  refine x_ent (ret := none) cX6_keep 3 (by decide) rfl (Nat.le_of_ble_eq_true rfl) ?_
  intro p e s m below meth c ls C hR hS hl
  have C : Cx p s m [.ref (G.2.1 75)].toArray meth c cX6_keep RX6 wsX6_keep none 3 G := C
  have hx := C.1
  have hb := C.2.1
  have hl : lv_has ls 3 [(0, .ref (G.2.1 75))] := hl
  have inX6 : ∀ w ∈ u_ws RX6 TX6 22, w ∈ wsX6_keep := fun w h => List.mem_cons_of_mem _ (List.mem_append_right _ h)
  unfold f_X6_keep at hf
  refine lv_aload_n hx hb dX6_keep_0 rfl (lv_at hl 0 rfl) ?_
  refine x_get C hR inX6 75 (by decide) (cz5 rfl) rfl 0 (by decide) 1 rfl (.ref (G.2.1 76)) rfl dX6_keep_1 ?_
  refine lv_iconst (v := 5) hx hb dX6_keep_4 (by decide) ?_
  refine x_iald C hR 76 rfl (x_in rfl) (n := 5) rfl (sA σ 76 5) rfl dX6_keep_5 ?_
  refine lv_bipush (v := 8) hx hb dX6_keep_6 (by decide) ?_
  refine lv_icmp_ne (tgt := 51) hx hb dX6_keep_8 (by decide) (fun c_8 => ?_) (fun c_8 => ?_)
  · replace hf := (if_neg c_8).symm.trans hf
    exact w_X6_keep_51 C  _ hf _ _ _ hR hS (lv_sub hl [0] rfl)
  · replace hf := (if_pos c_8).symm.trans hf
    refine lv_iconst (v := 0) hx hb dX6_keep_11 (by decide) ?_
    refine lv_istore_n (lv' := [(1, .int 0), (0, .ref (G.2.1 75))]) hx hb dX6_keep_12 rfl hl (by decide) rfl (fun ls hl => ?_)
    exact w_X6_keep_13 C  FU 0 _ hf _ _ _ hR hS (lv_sub hl [1, 0] rfl)
theorem hdV_X6_turn : yX6_turn.cls = RX6 ∧ yX6_turn.cls ≠ "java/lang/invoke/MethodHandle" ∧ yX6_turn.cls ≠ "java/lang/invoke/VarHandle" ∧ (parseMethodDescriptor yX6_turn.desc).map (fun d => d.parameters.length) = some 1 := by decide +kernel
def f_X6_turn (x1 : Int32) (σ : St) : Option (Int32 × St) :=
  bd (f_X6_isLock x1 σ) (fun r2 σ2 => (if r2 = 0 then bd (f_X6_bad (-2) σ2) (fun r11 σ11 => some (r11, σ11)) else bv (f_X6_keep σ2) (fun σ16 => gd (((6 + (3 * x1)) + 1) < 0 ∨ 122 ≤ ((6 + (3 * x1)) + 1).toNatClampNeg) (gd (((6 + (3 * x1)) + 1) < 0 ∨ 122 ≤ ((6 + (3 * x1)) + 1).toNatClampNeg) (bd (f_X6_get x1 1 (pA σ16 76 (((6 + (3 * x1)) + 1).toNatClampNeg) ((sA σ16 76 (((6 + (3 * x1)) + 1).toNatClampNeg)) ^^^ 1))) (fun r39 σ39 => some (r39, σ39)))))))
set_option maxHeartbeats 4000000 in
set_option maxRecDepth 100000 in
theorem c_X6_turn (l : Launch) (G : GG) (x1 : Int32) (σ : St) (res : Int32 × St) (hf : f_X6_turn x1 σ = some res) : CI l yX6_turn wsX6_turn 2 [.ref (G.2.1 75), .int x1] G σ (fun r u => r = res.1 ∧ u = res.2) := by
  refine x_ent (ret := (some .int)) cX6_turn 2 (by decide) rfl (Nat.le_of_ble_eq_true rfl) ?_
  intro p e s m below meth c ls C hR hS hl
  have C : Cx p s m [.ref (G.2.1 75), .int x1].toArray meth c cX6_turn RX6 wsX6_turn (some .int) 2 G := C
  have hx := C.1
  have hb := C.2.1
  have hl : lv_has ls 2 [(0, .ref (G.2.1 75)), (1, .int x1)] := hl
  have inX6 : ∀ w ∈ u_ws RX6 TX6 22, w ∈ wsX6_turn := fun w h => List.mem_cons_of_mem _ (List.mem_append_right _ h)
  unfold f_X6_turn at hf
  refine lv_aload_n hx hb dX6_turn_0 rfl (lv_at hl 0 rfl) ?_
  refine lv_iload_n hx hb dX6_turn_1 rfl (lv_at hl 1 rfl) ?_
  obtain ⟨r2_, σ2_, hc_2, hf⟩ := bd_some hf
  refine x_cvI C hl.1 hR hS (c_X6_isLock l G x1 σ _ hc_2) gX6_turn_X6_isLock rfl hdV_X6_isLock ⟨Nat.le_of_ble_eq_true rfl, Nat.le_of_ble_eq_true rfl⟩ (by decide) (cz5 rfl) rfl rfl (As := [.int x1]) (rest := []) rfl (Nat.le_of_ble_eq_true rfl) ⟨Nat.le_of_ble_eq_true rfl, Nat.le_of_ble_eq_true rfl⟩ dX6_turn_2 (fun r2 σ2 H locs hq_2 hR hS => ?_)
  obtain ⟨rfl, rfl⟩ := hq_2
  refine lv_if_ne (tgt := 15) hx hb dX6_turn_5 (by decide) (fun c_5 => ?_) (fun c_5 => ?_)
  · replace hf := (if_neg c_5).symm.trans hf
    refine lv_aload_n hx hb dX6_turn_15 rfl (lv_at hl 0 rfl) ?_
    obtain ⟨σ16_, hc_16, hf⟩ := bv_some hf
    refine x_cvV C hl.1 hR hS (c_X6_keep l G σ2 _ hc_16) gX6_turn_X6_keep rfl hdV_X6_keep ⟨Nat.le_of_ble_eq_true rfl, Nat.le_of_ble_eq_true rfl⟩ (by decide) (cz5 rfl) rfl rfl (As := []) (rest := []) rfl (Nat.le_of_ble_eq_true rfl) ⟨Nat.le_of_ble_eq_true rfl, Nat.le_of_ble_eq_true rfl⟩ dX6_turn_16 (fun σ16 H locs hq_16 hR hS => ?_)
    subst hq_16
    refine lv_aload_n hx hb dX6_turn_19 rfl (lv_at hl 0 rfl) ?_
    refine x_get C hR inX6 75 (by decide) (cz5 rfl) rfl 0 (by decide) 1 rfl (.ref (G.2.1 76)) rfl dX6_turn_20 ?_
    refine lv_bipush (v := 6) hx hb dX6_turn_23 (by decide) ?_
    refine lv_iconst (v := 3) hx hb dX6_turn_25 (by decide) ?_
    refine lv_iload_n hx hb dX6_turn_26 rfl (lv_at hl 1 rfl) ?_
    refine lv_imul hx hb dX6_turn_27 ?_
    refine lv_iadd hx hb dX6_turn_28 ?_
    refine lv_iconst (v := 1) hx hb dX6_turn_29 (by decide) ?_
    refine lv_iadd hx hb dX6_turn_30 ?_
    refine lv_dup2_11 hx hb dX6_turn_31 rfl rfl ?_
    obtain ⟨z_32, hf⟩ := gd_some hf
    refine x_iald C hR 76 rfl z_32 (n := ((6 + (3 * x1)) + 1).toNatClampNeg) rfl (sA σ16 76 (((6 + (3 * x1)) + 1).toNatClampNeg)) rfl dX6_turn_32 ?_
    refine lv_iconst (v := 1) hx hb dX6_turn_33 (by decide) ?_
    refine lv_ixor hx hb dX6_turn_34 ?_
    obtain ⟨z_35, hf⟩ := gd_some hf
    refine x_iast C hR hS 76 rfl z_35 (n := ((6 + (3 * x1)) + 1).toNatClampNeg) rfl dX6_turn_35 (fun H locs hR hS => ?_)
    refine lv_aload_n hx hb dX6_turn_36 rfl (lv_at hl 0 rfl) ?_
    refine lv_iload_n hx hb dX6_turn_37 rfl (lv_at hl 1 rfl) ?_
    refine lv_iconst (v := 1) hx hb dX6_turn_38 (by decide) ?_
    obtain ⟨r39_, σ39_, hc_39, hf⟩ := bd_some hf
    refine x_cvI C hl.1 hR hS (c_X6_get l G x1 1 (pA σ16 76 (((6 + (3 * x1)) + 1).toNatClampNeg) ((sA σ16 76 (((6 + (3 * x1)) + 1).toNatClampNeg)) ^^^ 1)) _ hc_39) gX6_turn_X6_get rfl hdV_X6_get ⟨Nat.le_of_ble_eq_true rfl, Nat.le_of_ble_eq_true rfl⟩ (by decide) (cz5 rfl) rfl rfl (As := [.int x1, .int 1]) (rest := []) rfl (Nat.le_of_ble_eq_true rfl) ⟨Nat.le_of_ble_eq_true rfl, Nat.le_of_ble_eq_true rfl⟩ dX6_turn_39 (fun r39 σ39 H locs hq_39 hR hS => ?_)
    obtain ⟨rfl, rfl⟩ := hq_39
    obtain rfl := Option.some.inj hf
    exact x_iret C hR hS dX6_turn_42 ⟨rfl, rfl⟩
  · replace hf := (if_pos c_5).symm.trans hf
    refine lv_aload_n hx hb dX6_turn_8 rfl (lv_at hl 0 rfl) ?_
    refine lv_bipush (v := (-2)) hx hb dX6_turn_9 (by decide) ?_
    obtain ⟨r11_, σ11_, hc_11, hf⟩ := bd_some hf
    refine x_cvI C hl.1 hR hS (c_X6_bad l G (-2) σ2 _ hc_11) gX6_turn_X6_bad rfl hdV_X6_bad ⟨Nat.le_of_ble_eq_true rfl, Nat.le_of_ble_eq_true rfl⟩ (by decide) (cz5 rfl) rfl rfl (As := [.int (-2)]) (rest := []) rfl (Nat.le_of_ble_eq_true rfl) ⟨Nat.le_of_ble_eq_true rfl, Nat.le_of_ble_eq_true rfl⟩ dX6_turn_11 (fun r11 σ11 H locs hq_11 hR hS => ?_)
    obtain ⟨rfl, rfl⟩ := hq_11
    obtain rfl := Option.some.inj hf
    exact x_iret C hR hS dX6_turn_14 ⟨rfl, rfl⟩
theorem hdV_X6_undo : yX6_undo.cls = RX6 ∧ yX6_undo.cls ≠ "java/lang/invoke/MethodHandle" ∧ yX6_undo.cls ≠ "java/lang/invoke/VarHandle" ∧ (parseMethodDescriptor yX6_undo.desc).map (fun d => d.parameters.length) = some 0 := by decide +kernel
def f_X6_undo_39 : Nat → Int32 → Int32 → St → Option (Int32 × St)
  | 0, _, _, _ => none
  | n + 1, x1, x2, σ => (if 8 ≤ x2 then gd ((x1 + 8) < 0 ∨ 122 ≤ (x1 + 8).toNatClampNeg) (gd ((x1 + 9) < 0 ∨ 122 ≤ (x1 + 9).toNatClampNeg) (some (sA σ 76 ((x1 + 8).toNatClampNeg), (pA (pA σ 76 2 (sA σ 76 ((x1 + 8).toNatClampNeg))) 76 3 (sA (pA σ 76 2 (sA σ 76 ((x1 + 8).toNatClampNeg))) 76 ((x1 + 9).toNatClampNeg)))))) else gd ((x1 + x2) < 0 ∨ 122 ≤ (x1 + x2).toNatClampNeg) (gd (((6 + (3 * x2)) + 1) < 0 ∨ 122 ≤ ((6 + (3 * x2)) + 1).toNatClampNeg) ((f_X6_undo_39 n) x1 (x2 + 1) (pA σ 76 (((6 + (3 * x2)) + 1).toNatClampNeg) (sA σ 76 ((x1 + x2).toNatClampNeg))))))
def f_X6_undo (σ : St) : Option (Int32 × St) :=
  (if (sA σ 76 5) = 0 then bd (f_X6_no σ) (fun r10 σ10 => some (r10, σ10)) else f_X6_undo_39 FU (42 + (10 * ((sA σ 76 5) - 1))) 0 (pA σ 76 5 ((sA σ 76 5) - 1)))
set_option maxHeartbeats 4000000 in
set_option maxRecDepth 100000 in
theorem w_X6_undo_39 {p : Program} {l : Launch} {e : Env} {s : State} {m : MethodId} {args : Array Value} {below : List Frame} {meth : Method} {c : Code} {G : GG} (C : Cx p s m args meth c cX6_undo RX6 wsX6_undo (some .int) 3 G) {res : Int32 × St} : ∀ (n : Nat) (x1 : Int32) (x2 : Int32) (σ : St), f_X6_undo_39 n x1 x2 σ = some res → WC p l e 1 s m args below meth c G (QI G res) 3 39 [(0, .ref (G.2.1 75)), (1, .int x1), (2, .int x2)] [] σ := by
  have hx := C.1
  have hb := C.2.1
  have inX6 : ∀ w ∈ u_ws RX6 TX6 22, w ∈ wsX6_undo := fun w h => List.mem_cons_of_mem _ (List.mem_append_right _ h)
  intro n
  induction n with
  | zero => intro x1 x2 σ hf; cases hf
  | succ n hrc39 =>
    intro x1 x2 σ hf _ _ _ hR hS hl
    unfold f_X6_undo_39 at hf
    refine lv_iload_n hx hb dX6_undo_39 rfl (lv_at hl 2 rfl) ?_
    refine lv_bipush (v := 8) hx hb dX6_undo_40 (by decide) ?_
    refine lv_icmp_ge (tgt := 72) hx hb dX6_undo_42 (by decide) (fun c_42 => ?_) (fun c_42 => ?_)
    · replace hf := (if_pos c_42).symm.trans hf
      refine lv_aload_n hx hb dX6_undo_72 rfl (lv_at hl 0 rfl) ?_
      refine x_get C hR inX6 75 (by decide) (cz5 rfl) rfl 0 (by decide) 1 rfl (.ref (G.2.1 76)) rfl dX6_undo_73 ?_
      refine lv_iconst (v := 2) hx hb dX6_undo_76 (by decide) ?_
      refine lv_aload_n hx hb dX6_undo_77 rfl (lv_at hl 0 rfl) ?_
      refine x_get C hR inX6 75 (by decide) (cz5 rfl) rfl 0 (by decide) 1 rfl (.ref (G.2.1 76)) rfl dX6_undo_78 ?_
      refine lv_iload_n hx hb dX6_undo_81 rfl (lv_at hl 1 rfl) ?_
      refine lv_bipush (v := 8) hx hb dX6_undo_82 (by decide) ?_
      refine lv_iadd hx hb dX6_undo_84 ?_
      obtain ⟨z_85, hf⟩ := gd_some hf
      refine x_iald C hR 76 rfl z_85 (n := (x1 + 8).toNatClampNeg) rfl (sA σ 76 ((x1 + 8).toNatClampNeg)) rfl dX6_undo_85 ?_
      refine x_iast C hR hS 76 rfl (x_in rfl) (n := 2) rfl dX6_undo_86 (fun H locs hR hS => ?_)
      refine lv_aload_n hx hb dX6_undo_87 rfl (lv_at hl 0 rfl) ?_
      refine x_get C hR inX6 75 (by decide) (cz5 rfl) rfl 0 (by decide) 1 rfl (.ref (G.2.1 76)) rfl dX6_undo_88 ?_
      refine lv_iconst (v := 3) hx hb dX6_undo_91 (by decide) ?_
      refine lv_aload_n hx hb dX6_undo_92 rfl (lv_at hl 0 rfl) ?_
      refine x_get C hR inX6 75 (by decide) (cz5 rfl) rfl 0 (by decide) 1 rfl (.ref (G.2.1 76)) rfl dX6_undo_93 ?_
      refine lv_iload_n hx hb dX6_undo_96 rfl (lv_at hl 1 rfl) ?_
      refine lv_bipush (v := 9) hx hb dX6_undo_97 (by decide) ?_
      refine lv_iadd hx hb dX6_undo_99 ?_
      obtain ⟨z_100, hf⟩ := gd_some hf
      refine x_iald C hR 76 rfl z_100 (n := (x1 + 9).toNatClampNeg) rfl (sA (pA σ 76 2 (sA σ 76 ((x1 + 8).toNatClampNeg))) 76 ((x1 + 9).toNatClampNeg)) (by first | rfl | exact sA_self | (simp only [sA_pA, sA_pI, sA_pL]; simp)) dX6_undo_100 ?_
      refine x_iast C hR hS 76 rfl (x_in rfl) (n := 3) rfl dX6_undo_101 (fun H locs hR hS => ?_)
      refine lv_aload_n hx hb dX6_undo_102 rfl (lv_at hl 0 rfl) ?_
      refine x_get C hR inX6 75 (by decide) (cz5 rfl) rfl 0 (by decide) 1 rfl (.ref (G.2.1 76)) rfl dX6_undo_103 ?_
      refine lv_iconst (v := 2) hx hb dX6_undo_106 (by decide) ?_
      refine x_iald C hR 76 rfl (x_in rfl) (n := 2) rfl (sA σ 76 ((x1 + 8).toNatClampNeg)) rfl dX6_undo_107 ?_
      obtain rfl := Option.some.inj hf
      exact x_iret C hR hS dX6_undo_108 ⟨rfl, rfl⟩
    · replace hf := (if_neg c_42).symm.trans hf
      refine lv_aload_n hx hb dX6_undo_45 rfl (lv_at hl 0 rfl) ?_
      refine x_get C hR inX6 75 (by decide) (cz5 rfl) rfl 0 (by decide) 1 rfl (.ref (G.2.1 76)) rfl dX6_undo_46 ?_
      refine lv_bipush (v := 6) hx hb dX6_undo_49 (by decide) ?_
      refine lv_iconst (v := 3) hx hb dX6_undo_51 (by decide) ?_
      refine lv_iload_n hx hb dX6_undo_52 rfl (lv_at hl 2 rfl) ?_
      refine lv_imul hx hb dX6_undo_53 ?_
      refine lv_iadd hx hb dX6_undo_54 ?_
      refine lv_iconst (v := 1) hx hb dX6_undo_55 (by decide) ?_
      refine lv_iadd hx hb dX6_undo_56 ?_
      refine lv_aload_n hx hb dX6_undo_57 rfl (lv_at hl 0 rfl) ?_
      refine x_get C hR inX6 75 (by decide) (cz5 rfl) rfl 0 (by decide) 1 rfl (.ref (G.2.1 76)) rfl dX6_undo_58 ?_
      refine lv_iload_n hx hb dX6_undo_61 rfl (lv_at hl 1 rfl) ?_
      refine lv_iload_n hx hb dX6_undo_62 rfl (lv_at hl 2 rfl) ?_
      refine lv_iadd hx hb dX6_undo_63 ?_
      obtain ⟨z_64, hf⟩ := gd_some hf
      refine x_iald C hR 76 rfl z_64 (n := (x1 + x2).toNatClampNeg) rfl (sA σ 76 ((x1 + x2).toNatClampNeg)) rfl dX6_undo_64 ?_
      obtain ⟨z_65, hf⟩ := gd_some hf
      refine x_iast C hR hS 76 rfl z_65 (n := ((6 + (3 * x2)) + 1).toNatClampNeg) rfl dX6_undo_65 (fun H locs hR hS => ?_)
      refine lv_iinc (v := x2 + 1) (lv' := [(2, .int (x2 + 1)), (0, .ref (G.2.1 75)), (1, .int x1)]) hx hb dX6_undo_66 hl (k := 2) rfl rfl (by decide) rfl (fun ls hl => ?_)
      refine lv_goto (tgt := 39) hx hb dX6_undo_69 (by decide) ?_
      exact hrc39 x1 (x2 + 1) _ hf _ _ _ hR hS (lv_sub hl [1, 2, 0] rfl)
set_option maxHeartbeats 4000000 in
set_option maxRecDepth 100000 in
theorem c_X6_undo (l : Launch) (G : GG) (σ : St) (res : Int32 × St) (hf : f_X6_undo σ = some res) : CI l yX6_undo wsX6_undo 1 [.ref (G.2.1 75)] G σ (fun r u => r = res.1 ∧ u = res.2) := by
  refine x_ent (ret := (some .int)) cX6_undo 3 (by decide) rfl (Nat.le_of_ble_eq_true rfl) ?_
  intro p e s m below meth c ls C hR hS hl
  have C : Cx p s m [.ref (G.2.1 75)].toArray meth c cX6_undo RX6 wsX6_undo (some .int) 3 G := C
  have hx := C.1
  have hb := C.2.1
  have hl : lv_has ls 3 [(0, .ref (G.2.1 75))] := hl
  have inX6 : ∀ w ∈ u_ws RX6 TX6 22, w ∈ wsX6_undo := fun w h => List.mem_cons_of_mem _ (List.mem_append_right _ h)
  unfold f_X6_undo at hf
  refine lv_aload_n hx hb dX6_undo_0 rfl (lv_at hl 0 rfl) ?_
  refine x_get C hR inX6 75 (by decide) (cz5 rfl) rfl 0 (by decide) 1 rfl (.ref (G.2.1 76)) rfl dX6_undo_1 ?_
  refine lv_iconst (v := 5) hx hb dX6_undo_4 (by decide) ?_
  refine x_iald C hR 76 rfl (x_in rfl) (n := 5) rfl (sA σ 76 5) rfl dX6_undo_5 ?_
  refine lv_if_ne (tgt := 14) hx hb dX6_undo_6 (by decide) (fun c_6 => ?_) (fun c_6 => ?_)
  · replace hf := (if_neg c_6).symm.trans hf
    refine lv_aload_n hx hb dX6_undo_14 rfl (lv_at hl 0 rfl) ?_
    refine x_get C hR inX6 75 (by decide) (cz5 rfl) rfl 0 (by decide) 1 rfl (.ref (G.2.1 76)) rfl dX6_undo_15 ?_
    refine lv_iconst (v := 5) hx hb dX6_undo_18 (by decide) ?_
    refine lv_dup2_11 hx hb dX6_undo_19 rfl rfl ?_
    refine x_iald C hR 76 rfl (x_in rfl) (n := 5) rfl (sA σ 76 5) rfl dX6_undo_20 ?_
    refine lv_iconst (v := 1) hx hb dX6_undo_21 (by decide) ?_
    refine lv_isub hx hb dX6_undo_22 ?_
    refine x_iast C hR hS 76 rfl (x_in rfl) (n := 5) rfl dX6_undo_23 (fun H locs hR hS => ?_)
    refine lv_bipush (v := 42) hx hb dX6_undo_24 (by decide) ?_
    refine lv_bipush (v := 10) hx hb dX6_undo_26 (by decide) ?_
    refine lv_aload_n hx hb dX6_undo_28 rfl (lv_at hl 0 rfl) ?_
    refine x_get C hR inX6 75 (by decide) (cz5 rfl) rfl 0 (by decide) 1 rfl (.ref (G.2.1 76)) rfl dX6_undo_29 ?_
    refine lv_iconst (v := 5) hx hb dX6_undo_32 (by decide) ?_
    refine x_iald C hR 76 rfl (x_in rfl) (n := 5) rfl ((sA σ 76 5) - 1) rfl dX6_undo_33 ?_
    refine lv_imul hx hb dX6_undo_34 ?_
    refine lv_iadd hx hb dX6_undo_35 ?_
    refine lv_istore_n (lv' := [(1, .int (42 + (10 * ((sA σ 76 5) - 1)))), (0, .ref (G.2.1 75))]) hx hb dX6_undo_36 rfl hl (by decide) rfl (fun ls hl => ?_)
    refine lv_iconst (v := 0) hx hb dX6_undo_37 (by decide) ?_
    refine lv_istore_n (lv' := [(2, .int 0), (1, .int (42 + (10 * ((sA σ 76 5) - 1)))), (0, .ref (G.2.1 75))]) hx hb dX6_undo_38 rfl hl (by decide) rfl (fun ls hl => ?_)
    exact w_X6_undo_39 C  FU (42 + (10 * ((sA σ 76 5) - 1))) 0 _ hf _ _ _ hR hS (lv_sub hl [2, 1, 0] rfl)
  · replace hf := (if_pos c_6).symm.trans hf
    refine lv_aload_n hx hb dX6_undo_9 rfl (lv_at hl 0 rfl) ?_
    obtain ⟨r10_, σ10_, hc_10, hf⟩ := bd_some hf
    refine x_cvI C hl.1 hR hS (c_X6_no l G σ _ hc_10) gX6_undo_X6_no rfl hdV_X6_no ⟨Nat.le_of_ble_eq_true rfl, Nat.le_of_ble_eq_true rfl⟩ (by decide) (cz5 rfl) rfl rfl (As := []) (rest := []) rfl (Nat.le_of_ble_eq_true rfl) ⟨Nat.le_of_ble_eq_true rfl, Nat.le_of_ble_eq_true rfl⟩ dX6_undo_10 (fun r10 σ10 H locs hq_10 hR hS => ?_)
    obtain ⟨rfl, rfl⟩ := hq_10
    obtain rfl := Option.some.inj hf
    exact x_iret C hR hS dX6_undo_13 ⟨rfl, rfl⟩
theorem hdS_X6_readyIn : yX6_readyIn.cls ≠ "java/lang/invoke/MethodHandle" ∧ yX6_readyIn.cls ≠ "java/lang/invoke/VarHandle" ∧ (parseMethodDescriptor yX6_readyIn.desc).map (fun d => d.parameters.length) = some 2 := by decide +kernel
def f_X6_readyIn_36 (x1 : Int32) (σ : St) : Option (Int32 × St) :=
  (if 5 ≤ x1 then some (4, σ) else some (8, σ))
def f_X6_readyIn (x0 : Int32) (x1 : Int32) (σ : St) : Option (Int32 × St) :=
  (if x0 = 1 then f_X6_readyIn_36 x1 σ else (if x0 = 2 then some (4, σ) else (if x0 = 3 then f_X6_readyIn_36 x1 σ else (if x0 = 4 then some (6, σ) else (if x0 = 5 then some (3, σ) else some (4, σ))))))
set_option maxHeartbeats 4000000 in
set_option maxRecDepth 100000 in
theorem w_X6_readyIn_36 {p : Program} {l : Launch} {e : Env} {s : State} {m : MethodId} {args : Array Value} {below : List Frame} {meth : Method} {c : Code} {G : GG} (C : Cx p s m args meth c cX6_readyIn RX6 wsX6_readyIn (some .int) 2 G) {res : Int32 × St} : ∀ (x1 : Int32) (σ : St), f_X6_readyIn_36 x1 σ = some res → WC p l e 0 s m args below meth c G (QI G res) 2 36 [(1, .int x1)] [] σ := by
  have hx := C.1
  have hb := C.2.1
  intro x1 σ hf _ _ _ hR hS hl
  unfold f_X6_readyIn_36 at hf
  refine lv_iload_n hx hb dX6_readyIn_36 rfl (lv_at hl 0 rfl) ?_
  refine lv_iconst (v := 5) hx hb dX6_readyIn_37 (by decide) ?_
  refine lv_icmp_ge (tgt := 46) hx hb dX6_readyIn_38 (by decide) (fun c_38 => ?_) (fun c_38 => ?_)
  · replace hf := (if_pos c_38).symm.trans hf
    refine lv_iconst (v := 4) hx hb dX6_readyIn_46 (by decide) ?_
    obtain rfl := Option.some.inj hf
    exact x_iret C hR hS dX6_readyIn_47 ⟨rfl, rfl⟩
  · replace hf := (if_neg c_38).symm.trans hf
    refine lv_bipush (v := 8) hx hb dX6_readyIn_41 (by decide) ?_
    refine lv_goto (tgt := 47) hx hb dX6_readyIn_43 (by decide) ?_
    obtain rfl := Option.some.inj hf
    exact x_iret C hR hS dX6_readyIn_47 ⟨rfl, rfl⟩
set_option maxHeartbeats 4000000 in
set_option maxRecDepth 100000 in
theorem c_X6_readyIn (l : Launch) (G : GG) (x0 : Int32) (x1 : Int32) (σ : St) (res : Int32 × St) (hf : f_X6_readyIn x0 x1 σ = some res) : CI l yX6_readyIn wsX6_readyIn 0 [.int x0, .int x1] G σ (fun r u => r = res.1 ∧ u = res.2) := by
  refine x_ent (ret := (some .int)) cX6_readyIn 2 (by decide) rfl (Nat.le_of_ble_eq_true rfl) ?_
  intro p e s m below meth c ls C hR hS hl
  have C : Cx p s m [.int x0, .int x1].toArray meth c cX6_readyIn RX6 wsX6_readyIn (some .int) 2 G := C
  have hx := C.1
  have hb := C.2.1
  have hl : lv_has ls 2 [(0, .int x0), (1, .int x1)] := hl
  unfold f_X6_readyIn at hf
  refine lv_iload_n hx hb dX6_readyIn_0 rfl (lv_at hl 0 rfl) ?_
  by_cases c_1_0 : x0 = 1
  · replace hf := (if_pos c_1_0).symm.trans hf
    refine x_tbl (tgt := 36) (off := 35) hx hb c_1_0 dX6_readyIn_1 (by decide) (by decide) (by decide) (by decide) ?_
    exact w_X6_readyIn_36 C  x1 _ hf _ _ _ hR hS (lv_sub hl [1] rfl)
  · replace hf := (if_neg c_1_0).symm.trans hf
    by_cases c_1_1 : x0 = 2
    · replace hf := (if_pos c_1_1).symm.trans hf
      refine x_tbl (tgt := 53) (off := 52) hx hb c_1_1 dX6_readyIn_1 (by decide) (by decide) (by decide) (by decide) ?_
      refine lv_iconst (v := 4) hx hb dX6_readyIn_53 (by decide) ?_
      obtain rfl := Option.some.inj hf
      exact x_iret C hR hS dX6_readyIn_54 ⟨rfl, rfl⟩
    · replace hf := (if_neg c_1_1).symm.trans hf
      by_cases c_1_2 : x0 = 3
      · replace hf := (if_pos c_1_2).symm.trans hf
        refine x_tbl (tgt := 36) (off := 35) hx hb c_1_2 dX6_readyIn_1 (by decide) (by decide) (by decide) (by decide) ?_
        exact w_X6_readyIn_36 C  x1 _ hf _ _ _ hR hS (lv_sub hl [1] rfl)
      · replace hf := (if_neg c_1_2).symm.trans hf
        by_cases c_1_3 : x0 = 4
        · replace hf := (if_pos c_1_3).symm.trans hf
          refine x_tbl (tgt := 48) (off := 47) hx hb c_1_3 dX6_readyIn_1 (by decide) (by decide) (by decide) (by decide) ?_
          refine lv_bipush (v := 6) hx hb dX6_readyIn_48 (by decide) ?_
          obtain rfl := Option.some.inj hf
          exact x_iret C hR hS dX6_readyIn_50 ⟨rfl, rfl⟩
        · replace hf := (if_neg c_1_3).symm.trans hf
          by_cases c_1_4 : x0 = 5
          · replace hf := (if_pos c_1_4).symm.trans hf
            refine x_tbl (tgt := 51) (off := 50) hx hb c_1_4 dX6_readyIn_1 (by decide) (by decide) (by decide) (by decide) ?_
            refine lv_iconst (v := 3) hx hb dX6_readyIn_51 (by decide) ?_
            obtain rfl := Option.some.inj hf
            exact x_iret C hR hS dX6_readyIn_52 ⟨rfl, rfl⟩
          · replace hf := (if_neg c_1_4).symm.trans hf
            have n_1_0 : Int32.toInt x0 ≠ 1 := x_ne c_1_0
            have n_1_1 : Int32.toInt x0 ≠ 2 := x_ne c_1_1
            have n_1_2 : Int32.toInt x0 ≠ 3 := x_ne c_1_2
            have n_1_3 : Int32.toInt x0 ≠ 4 := x_ne c_1_3
            have n_1_4 : Int32.toInt x0 ≠ 5 := x_ne c_1_4
            refine lv_tableOut (tgt := 53) hx hb dX6_readyIn_1 (by omega) (by decide) ?_
            refine lv_iconst (v := 4) hx hb dX6_readyIn_53 (by decide) ?_
            obtain rfl := Option.some.inj hf
            exact x_iret C hR hS dX6_readyIn_54 ⟨rfl, rfl⟩
theorem hdS_X6_passedIn : yX6_passedIn.cls ≠ "java/lang/invoke/MethodHandle" ∧ yX6_passedIn.cls ≠ "java/lang/invoke/VarHandle" ∧ (parseMethodDescriptor yX6_passedIn.desc).map (fun d => d.parameters.length) = some 2 := by decide +kernel
def f_X6_passedIn (x0 : Int32) (x1 : Int32) (σ : St) : Option (Int32 × St) :=
  (if x0 = 1 then some (8, σ) else (if x0 = 2 then some (6, σ) else (if x0 = 3 then (if 5 ≤ x1 then some (8, σ) else some (9, σ)) else (if x0 = 4 then some (9, σ) else some (6, σ)))))
set_option maxHeartbeats 4000000 in
set_option maxRecDepth 100000 in
theorem c_X6_passedIn (l : Launch) (G : GG) (x0 : Int32) (x1 : Int32) (σ : St) (res : Int32 × St) (hf : f_X6_passedIn x0 x1 σ = some res) : CI l yX6_passedIn wsX6_passedIn 0 [.int x0, .int x1] G σ (fun r u => r = res.1 ∧ u = res.2) := by
  refine x_ent (ret := (some .int)) cX6_passedIn 2 (by decide) rfl (Nat.le_of_ble_eq_true rfl) ?_
  intro p e s m below meth c ls C hR hS hl
  have C : Cx p s m [.int x0, .int x1].toArray meth c cX6_passedIn RX6 wsX6_passedIn (some .int) 2 G := C
  have hx := C.1
  have hb := C.2.1
  have hl : lv_has ls 2 [(0, .int x0), (1, .int x1)] := hl
  unfold f_X6_passedIn at hf
  refine lv_iload_n hx hb dX6_passedIn_0 rfl (lv_at hl 0 rfl) ?_
  by_cases c_1_0 : x0 = 1
  · replace hf := (if_pos c_1_0).symm.trans hf
    refine x_tbl (tgt := 32) (off := 31) hx hb c_1_0 dX6_passedIn_1 (by decide) (by decide) (by decide) (by decide) ?_
    refine lv_bipush (v := 8) hx hb dX6_passedIn_32 (by decide) ?_
    obtain rfl := Option.some.inj hf
    exact x_iret C hR hS dX6_passedIn_34 ⟨rfl, rfl⟩
  · replace hf := (if_neg c_1_0).symm.trans hf
    by_cases c_1_1 : x0 = 2
    · replace hf := (if_pos c_1_1).symm.trans hf
      refine x_tbl (tgt := 51) (off := 50) hx hb c_1_1 dX6_passedIn_1 (by decide) (by decide) (by decide) (by decide) ?_
      refine lv_bipush (v := 6) hx hb dX6_passedIn_51 (by decide) ?_
      obtain rfl := Option.some.inj hf
      exact x_iret C hR hS dX6_passedIn_53 ⟨rfl, rfl⟩
    · replace hf := (if_neg c_1_1).symm.trans hf
      by_cases c_1_2 : x0 = 3
      · replace hf := (if_pos c_1_2).symm.trans hf
        refine x_tbl (tgt := 35) (off := 34) hx hb c_1_2 dX6_passedIn_1 (by decide) (by decide) (by decide) (by decide) ?_
        refine lv_iload_n hx hb dX6_passedIn_35 rfl (lv_at hl 1 rfl) ?_
        refine lv_iconst (v := 5) hx hb dX6_passedIn_36 (by decide) ?_
        refine lv_icmp_ge (tgt := 45) hx hb dX6_passedIn_37 (by decide) (fun c_37 => ?_) (fun c_37 => ?_)
        · replace hf := (if_pos c_37).symm.trans hf
          refine lv_bipush (v := 8) hx hb dX6_passedIn_45 (by decide) ?_
          obtain rfl := Option.some.inj hf
          exact x_iret C hR hS dX6_passedIn_47 ⟨rfl, rfl⟩
        · replace hf := (if_neg c_37).symm.trans hf
          refine lv_bipush (v := 9) hx hb dX6_passedIn_40 (by decide) ?_
          refine lv_goto (tgt := 47) hx hb dX6_passedIn_42 (by decide) ?_
          obtain rfl := Option.some.inj hf
          exact x_iret C hR hS dX6_passedIn_47 ⟨rfl, rfl⟩
      · replace hf := (if_neg c_1_2).symm.trans hf
        by_cases c_1_3 : x0 = 4
        · replace hf := (if_pos c_1_3).symm.trans hf
          refine x_tbl (tgt := 48) (off := 47) hx hb c_1_3 dX6_passedIn_1 (by decide) (by decide) (by decide) (by decide) ?_
          refine lv_bipush (v := 9) hx hb dX6_passedIn_48 (by decide) ?_
          obtain rfl := Option.some.inj hf
          exact x_iret C hR hS dX6_passedIn_50 ⟨rfl, rfl⟩
        · replace hf := (if_neg c_1_3).symm.trans hf
          have n_1_0 : Int32.toInt x0 ≠ 1 := x_ne c_1_0
          have n_1_1 : Int32.toInt x0 ≠ 2 := x_ne c_1_1
          have n_1_2 : Int32.toInt x0 ≠ 3 := x_ne c_1_2
          have n_1_3 : Int32.toInt x0 ≠ 4 := x_ne c_1_3
          refine lv_tableOut (tgt := 51) hx hb dX6_passedIn_1 (by omega) (by decide) ?_
          refine lv_bipush (v := 6) hx hb dX6_passedIn_51 (by decide) ?_
          obtain rfl := Option.some.inj hf
          exact x_iret C hR hS dX6_passedIn_53 ⟨rfl, rfl⟩
theorem hdS_X6_staysFor : yX6_staysFor.cls ≠ "java/lang/invoke/MethodHandle" ∧ yX6_staysFor.cls ≠ "java/lang/invoke/VarHandle" ∧ (parseMethodDescriptor yX6_staysFor.desc).map (fun d => d.parameters.length) = some 1 := by decide +kernel
def f_X6_staysFor (x0 : Int32) (σ : St) : Option (Int32 × St) :=
  (if x0 = 2 then some (30, σ) else (if x0 = 3 then some (20, σ) else (if x0 = 5 then some (60, σ) else some (0, σ))))
set_option maxHeartbeats 4000000 in
set_option maxRecDepth 100000 in
theorem c_X6_staysFor (l : Launch) (G : GG) (x0 : Int32) (σ : St) (res : Int32 × St) (hf : f_X6_staysFor x0 σ = some res) : CI l yX6_staysFor wsX6_staysFor 0 [.int x0] G σ (fun r u => r = res.1 ∧ u = res.2) := by
  refine x_ent (ret := (some .int)) cX6_staysFor 1 (by decide) rfl (Nat.le_of_ble_eq_true rfl) ?_
  intro p e s m below meth c ls C hR hS hl
  have C : Cx p s m [.int x0].toArray meth c cX6_staysFor RX6 wsX6_staysFor (some .int) 1 G := C
  have hx := C.1
  have hb := C.2.1
  have hl : lv_has ls 1 [(0, .int x0)] := hl
  unfold f_X6_staysFor at hf
  refine lv_iload_n hx hb dX6_staysFor_0 rfl (lv_at hl 0 rfl) ?_
  refine lv_iconst (v := 2) hx hb dX6_staysFor_1 (by decide) ?_
  refine lv_icmp_ne (tgt := 10) hx hb dX6_staysFor_2 (by decide) (fun c_2 => ?_) (fun c_2 => ?_)
  · replace hf := (if_neg c_2).symm.trans hf
    refine lv_iload_n hx hb dX6_staysFor_10 rfl (lv_at hl 0 rfl) ?_
    refine lv_iconst (v := 3) hx hb dX6_staysFor_11 (by decide) ?_
    refine lv_icmp_ne (tgt := 20) hx hb dX6_staysFor_12 (by decide) (fun c_12 => ?_) (fun c_12 => ?_)
    · replace hf := (if_neg c_12).symm.trans hf
      refine lv_iload_n hx hb dX6_staysFor_20 rfl (lv_at hl 0 rfl) ?_
      refine lv_iconst (v := 5) hx hb dX6_staysFor_21 (by decide) ?_
      refine lv_icmp_ne (tgt := 30) hx hb dX6_staysFor_22 (by decide) (fun c_22 => ?_) (fun c_22 => ?_)
      · replace hf := (if_neg c_22).symm.trans hf
        refine lv_iconst (v := 0) hx hb dX6_staysFor_30 (by decide) ?_
        obtain rfl := Option.some.inj hf
        exact x_iret C hR hS dX6_staysFor_31 ⟨rfl, rfl⟩
      · replace hf := (if_pos c_22).symm.trans hf
        refine lv_bipush (v := 60) hx hb dX6_staysFor_25 (by decide) ?_
        refine lv_goto (tgt := 31) hx hb dX6_staysFor_27 (by decide) ?_
        obtain rfl := Option.some.inj hf
        exact x_iret C hR hS dX6_staysFor_31 ⟨rfl, rfl⟩
    · replace hf := (if_pos c_12).symm.trans hf
      refine lv_bipush (v := 20) hx hb dX6_staysFor_15 (by decide) ?_
      refine lv_goto (tgt := 31) hx hb dX6_staysFor_17 (by decide) ?_
      obtain rfl := Option.some.inj hf
      exact x_iret C hR hS dX6_staysFor_31 ⟨rfl, rfl⟩
  · replace hf := (if_pos c_2).symm.trans hf
    refine lv_bipush (v := 30) hx hb dX6_staysFor_5 (by decide) ?_
    refine lv_goto (tgt := 31) hx hb dX6_staysFor_7 (by decide) ?_
    obtain rfl := Option.some.inj hf
    exact x_iret C hR hS dX6_staysFor_31 ⟨rfl, rfl⟩
theorem hdV_X6_of : yX6_of.cls = RX6 ∧ yX6_of.cls ≠ "java/lang/invoke/MethodHandle" ∧ yX6_of.cls ≠ "java/lang/invoke/VarHandle" ∧ (parseMethodDescriptor yX6_of.desc).map (fun d => d.parameters.length) = some 2 := by decide +kernel
def f_X6_of (x1 : Int32) (x2 : Int32) (σ : St) : Option (Int32 × St) :=
  bd (f_X6_isLock x1 σ) (fun r2 σ2 => (if r2 = 0 then bd (f_X6_bad (-2) σ2) (fun r23 σ23 => some (r23, σ23)) else bd (f_X6_in x2.toInt64 0 5 σ2) (fun r14 σ14 => (if r14 = 0 then bd (f_X6_bad (-2) σ14) (fun r23 σ23 => some (r23, σ23)) else bd (f_X6_get x1 0 σ14) (fun r30 σ30 => (if x2 = 3 then bd (f_X6_readyIn r30 (sA σ30 76 1) σ30) (fun r67 σ67 => some (r67, σ67)) else (if x2 = 4 then bd (f_X6_passedIn r30 (sA σ30 76 1) σ30) (fun r78 σ78 => some (r78, σ78)) else (if x2 = 5 then bd (f_X6_staysFor r30 σ30) (fun r83 σ83 => some (r83, σ83)) else bd (f_X6_get x1 x2 σ30) (fun r90 σ90 => some (r90, σ90))))))))))
set_option maxHeartbeats 4000000 in
set_option maxRecDepth 100000 in
theorem c_X6_of (l : Launch) (G : GG) (x1 : Int32) (x2 : Int32) (σ : St) (res : Int32 × St) (hf : f_X6_of x1 x2 σ = some res) : CI l yX6_of wsX6_of 2 [.ref (G.2.1 75), .int x1, .int x2] G σ (fun r u => r = res.1 ∧ u = res.2) := by
  refine x_ent (ret := (some .int)) cX6_of 4 (by decide) rfl (Nat.le_of_ble_eq_true rfl) ?_
  intro p e s m below meth c ls C hR hS hl
  have C : Cx p s m [.ref (G.2.1 75), .int x1, .int x2].toArray meth c cX6_of RX6 wsX6_of (some .int) 4 G := C
  have hx := C.1
  have hb := C.2.1
  have hl : lv_has ls 4 [(0, .ref (G.2.1 75)), (1, .int x1), (2, .int x2)] := hl
  have inX6 : ∀ w ∈ u_ws RX6 TX6 22, w ∈ wsX6_of := fun w h => List.mem_cons_of_mem _ (List.mem_append_right _ h)
  unfold f_X6_of at hf
  refine lv_aload_n hx hb dX6_of_0 rfl (lv_at hl 0 rfl) ?_
  refine lv_iload_n hx hb dX6_of_1 rfl (lv_at hl 1 rfl) ?_
  obtain ⟨r2_, σ2_, hc_2, hf⟩ := bd_some hf
  refine x_cvI C hl.1 hR hS (c_X6_isLock l G x1 σ _ hc_2) gX6_of_X6_isLock rfl hdV_X6_isLock ⟨Nat.le_of_ble_eq_true rfl, Nat.le_of_ble_eq_true rfl⟩ (by decide) (cz5 rfl) rfl rfl (As := [.int x1]) (rest := []) rfl (Nat.le_of_ble_eq_true rfl) ⟨Nat.le_of_ble_eq_true rfl, Nat.le_of_ble_eq_true rfl⟩ dX6_of_2 (fun r2 σ2 H locs hq_2 hR hS => ?_)
  obtain ⟨rfl, rfl⟩ := hq_2
  refine lv_if_eq (tgt := 20) hx hb dX6_of_5 (by decide) (fun c_5 => ?_) (fun c_5 => ?_)
  · replace hf := (if_pos c_5).symm.trans hf
    refine lv_aload_n hx hb dX6_of_20 rfl (lv_at hl 0 rfl) ?_
    refine lv_bipush (v := (-2)) hx hb dX6_of_21 (by decide) ?_
    obtain ⟨r23_, σ23_, hc_23, hf⟩ := bd_some hf
    refine x_cvI C hl.1 hR hS (c_X6_bad l G (-2) σ2 _ hc_23) gX6_of_X6_bad rfl hdV_X6_bad ⟨Nat.le_of_ble_eq_true rfl, Nat.le_of_ble_eq_true rfl⟩ (by decide) (cz5 rfl) rfl rfl (As := [.int (-2)]) (rest := []) rfl (Nat.le_of_ble_eq_true rfl) ⟨Nat.le_of_ble_eq_true rfl, Nat.le_of_ble_eq_true rfl⟩ dX6_of_23 (fun r23 σ23 H locs hq_23 hR hS => ?_)
    obtain ⟨rfl, rfl⟩ := hq_23
    obtain rfl := Option.some.inj hf
    exact x_iret C hR hS dX6_of_26 ⟨rfl, rfl⟩
  · replace hf := (if_neg c_5).symm.trans hf
    refine lv_iload_n hx hb dX6_of_8 rfl (lv_at hl 2 rfl) ?_
    refine lv_i2l (v := x2.toInt64) hx hb dX6_of_9 rfl ?_
    refine lv_lconst (v := 0) hx hb dX6_of_10 (by decide) ?_
    refine lv_ldc2 (v := 5) hx hb C.2.2.2.2.1 (C.2.2.2.2.2.1 _ (List.mem_of_getElem? (i := 1) rfl)) dX6_of_11 ?_
    obtain ⟨r14_, σ14_, hc_14, hf⟩ := bd_some hf
    refine x_csI C hl.1 hR hS (c_X6_in l G x2.toInt64 0 5 σ2 _ hc_14) gX6_of_X6_in rfl hdS_X6_in ⟨Nat.le_of_ble_eq_true rfl, Nat.le_of_ble_eq_true rfl⟩ rfl (As := [.long x2.toInt64, .long 0, .long 5]) (rest := []) rfl (Nat.le_of_ble_eq_true rfl) ⟨Nat.le_of_ble_eq_true rfl, Nat.le_of_ble_eq_true rfl⟩ dX6_of_14 (fun r14 σ14 H locs hq_14 hR hS => ?_)
    obtain ⟨rfl, rfl⟩ := hq_14
    refine lv_if_ne (tgt := 27) hx hb dX6_of_17 (by decide) (fun c_17 => ?_) (fun c_17 => ?_)
    · replace hf := (if_neg c_17).symm.trans hf
      refine lv_aload_n hx hb dX6_of_27 rfl (lv_at hl 0 rfl) ?_
      refine lv_iload_n hx hb dX6_of_28 rfl (lv_at hl 1 rfl) ?_
      refine lv_iconst (v := 0) hx hb dX6_of_29 (by decide) ?_
      obtain ⟨r30_, σ30_, hc_30, hf⟩ := bd_some hf
      refine x_cvI C hl.1 hR hS (c_X6_get l G x1 0 σ14 _ hc_30) gX6_of_X6_get rfl hdV_X6_get ⟨Nat.le_of_ble_eq_true rfl, Nat.le_of_ble_eq_true rfl⟩ (by decide) (cz5 rfl) rfl rfl (As := [.int x1, .int 0]) (rest := []) rfl (Nat.le_of_ble_eq_true rfl) ⟨Nat.le_of_ble_eq_true rfl, Nat.le_of_ble_eq_true rfl⟩ dX6_of_30 (fun r30 σ30 H locs hq_30 hR hS => ?_)
      obtain ⟨rfl, rfl⟩ := hq_30
      refine lv_istore_n (lv' := [(3, .int r30), (0, .ref (G.2.1 75)), (1, .int x1), (2, .int x2)]) hx hb dX6_of_33 rfl hl (by decide) rfl (fun ls hl => ?_)
      refine lv_iload_n hx hb dX6_of_34 rfl (lv_at hl 3 rfl) ?_
      by_cases c_35_0 : x2 = 3
      · replace hf := (if_pos c_35_0).symm.trans hf
        refine x_tbl (tgt := 60) (off := 25) hx hb c_35_0 dX6_of_35 (by decide) (by decide) (by decide) (by decide) ?_
        refine lv_iload_n hx hb dX6_of_60 rfl (lv_at hl 0 rfl) ?_
        refine lv_aload_n hx hb dX6_of_61 rfl (lv_at hl 1 rfl) ?_
        refine x_get C hR inX6 75 (by decide) (cz5 rfl) rfl 0 (by decide) 2 rfl (.ref (G.2.1 76)) rfl dX6_of_62 ?_
        refine lv_iconst (v := 1) hx hb dX6_of_65 (by decide) ?_
        refine x_iald C hR 76 rfl (x_in rfl) (n := 1) rfl (sA σ30 76 1) rfl dX6_of_66 ?_
        obtain ⟨r67_, σ67_, hc_67, hf⟩ := bd_some hf
        refine x_csI C hl.1 hR hS (c_X6_readyIn l G r30 (sA σ30 76 1) σ30 _ hc_67) gX6_of_X6_readyIn rfl hdS_X6_readyIn ⟨Nat.le_of_ble_eq_true rfl, Nat.le_of_ble_eq_true rfl⟩ rfl (As := [.int r30, .int (sA σ30 76 1)]) (rest := []) rfl (Nat.le_of_ble_eq_true rfl) ⟨Nat.le_of_ble_eq_true rfl, Nat.le_of_ble_eq_true rfl⟩ dX6_of_67 (fun r67 σ67 H locs hq_67 hR hS => ?_)
        obtain ⟨rfl, rfl⟩ := hq_67
        obtain rfl := Option.some.inj hf
        exact x_iret C hR hS dX6_of_70 ⟨rfl, rfl⟩
      · replace hf := (if_neg c_35_0).symm.trans hf
        by_cases c_35_1 : x2 = 4
        · replace hf := (if_pos c_35_1).symm.trans hf
          refine x_tbl (tgt := 71) (off := 36) hx hb c_35_1 dX6_of_35 (by decide) (by decide) (by decide) (by decide) ?_
          refine lv_iload_n hx hb dX6_of_71 rfl (lv_at hl 0 rfl) ?_
          refine lv_aload_n hx hb dX6_of_72 rfl (lv_at hl 1 rfl) ?_
          refine x_get C hR inX6 75 (by decide) (cz5 rfl) rfl 0 (by decide) 2 rfl (.ref (G.2.1 76)) rfl dX6_of_73 ?_
          refine lv_iconst (v := 1) hx hb dX6_of_76 (by decide) ?_
          refine x_iald C hR 76 rfl (x_in rfl) (n := 1) rfl (sA σ30 76 1) rfl dX6_of_77 ?_
          obtain ⟨r78_, σ78_, hc_78, hf⟩ := bd_some hf
          refine x_csI C hl.1 hR hS (c_X6_passedIn l G r30 (sA σ30 76 1) σ30 _ hc_78) gX6_of_X6_passedIn rfl hdS_X6_passedIn ⟨Nat.le_of_ble_eq_true rfl, Nat.le_of_ble_eq_true rfl⟩ rfl (As := [.int r30, .int (sA σ30 76 1)]) (rest := []) rfl (Nat.le_of_ble_eq_true rfl) ⟨Nat.le_of_ble_eq_true rfl, Nat.le_of_ble_eq_true rfl⟩ dX6_of_78 (fun r78 σ78 H locs hq_78 hR hS => ?_)
          obtain ⟨rfl, rfl⟩ := hq_78
          obtain rfl := Option.some.inj hf
          exact x_iret C hR hS dX6_of_81 ⟨rfl, rfl⟩
        · replace hf := (if_neg c_35_1).symm.trans hf
          by_cases c_35_2 : x2 = 5
          · replace hf := (if_pos c_35_2).symm.trans hf
            refine x_tbl (tgt := 82) (off := 47) hx hb c_35_2 dX6_of_35 (by decide) (by decide) (by decide) (by decide) ?_
            refine lv_iload_n hx hb dX6_of_82 rfl (lv_at hl 0 rfl) ?_
            obtain ⟨r83_, σ83_, hc_83, hf⟩ := bd_some hf
            refine x_csI C hl.1 hR hS (c_X6_staysFor l G r30 σ30 _ hc_83) gX6_of_X6_staysFor rfl hdS_X6_staysFor ⟨Nat.le_of_ble_eq_true rfl, Nat.le_of_ble_eq_true rfl⟩ rfl (As := [.int r30]) (rest := []) rfl (Nat.le_of_ble_eq_true rfl) ⟨Nat.le_of_ble_eq_true rfl, Nat.le_of_ble_eq_true rfl⟩ dX6_of_83 (fun r83 σ83 H locs hq_83 hR hS => ?_)
            obtain ⟨rfl, rfl⟩ := hq_83
            obtain rfl := Option.some.inj hf
            exact x_iret C hR hS dX6_of_86 ⟨rfl, rfl⟩
          · replace hf := (if_neg c_35_2).symm.trans hf
            have n_35_0 : Int32.toInt x2 ≠ 3 := x_ne c_35_0
            have n_35_1 : Int32.toInt x2 ≠ 4 := x_ne c_35_1
            have n_35_2 : Int32.toInt x2 ≠ 5 := x_ne c_35_2
            refine lv_tableOut (tgt := 87) hx hb dX6_of_35 (by omega) (by decide) ?_
            refine lv_aload_n hx hb dX6_of_87 rfl (lv_at hl 1 rfl) ?_
            refine lv_iload_n hx hb dX6_of_88 rfl (lv_at hl 2 rfl) ?_
            refine lv_iload_n hx hb dX6_of_89 rfl (lv_at hl 3 rfl) ?_
            obtain ⟨r90_, σ90_, hc_90, hf⟩ := bd_some hf
            refine x_cvI C hl.1 hR hS (c_X6_get l G x1 x2 σ30 _ hc_90) gX6_of_X6_get rfl hdV_X6_get ⟨Nat.le_of_ble_eq_true rfl, Nat.le_of_ble_eq_true rfl⟩ (by decide) (cz5 rfl) rfl rfl (As := [.int x1, .int x2]) (rest := []) rfl (Nat.le_of_ble_eq_true rfl) ⟨Nat.le_of_ble_eq_true rfl, Nat.le_of_ble_eq_true rfl⟩ dX6_of_90 (fun r90 σ90 H locs hq_90 hR hS => ?_)
            obtain ⟨rfl, rfl⟩ := hq_90
            obtain rfl := Option.some.inj hf
            exact x_iret C hR hS dX6_of_93 ⟨rfl, rfl⟩
    · replace hf := (if_pos c_17).symm.trans hf
      refine lv_aload_n hx hb dX6_of_20 rfl (lv_at hl 0 rfl) ?_
      refine lv_bipush (v := (-2)) hx hb dX6_of_21 (by decide) ?_
      obtain ⟨r23_, σ23_, hc_23, hf⟩ := bd_some hf
      refine x_cvI C hl.1 hR hS (c_X6_bad l G (-2) σ14 _ hc_23) gX6_of_X6_bad rfl hdV_X6_bad ⟨Nat.le_of_ble_eq_true rfl, Nat.le_of_ble_eq_true rfl⟩ (by decide) (cz5 rfl) rfl rfl (As := [.int (-2)]) (rest := []) rfl (Nat.le_of_ble_eq_true rfl) ⟨Nat.le_of_ble_eq_true rfl, Nat.le_of_ble_eq_true rfl⟩ dX6_of_23 (fun r23 σ23 H locs hq_23 hR hS => ?_)
      obtain ⟨rfl, rfl⟩ := hq_23
      obtain rfl := Option.some.inj hf
      exact x_iret C hR hS dX6_of_26 ⟨rfl, rfl⟩
theorem hdV_X6_layHand : yX6_layHand.cls = RX6 ∧ yX6_layHand.cls ≠ "java/lang/invoke/MethodHandle" ∧ yX6_layHand.cls ≠ "java/lang/invoke/VarHandle" ∧ (parseMethodDescriptor yX6_layHand.desc).map (fun d => d.parameters.length) = some 0 := by decide +kernel
def f_X6_layHand_12 : Nat → Int32 → St → Option (St)
  | 0, _, _ => none
  | n + 1, x1, σ => (if 8 ≤ x1 then some σ else bd (f_X6_get x1 1 σ) (fun r26 σ26 => gd (x1 < 0 ∨ 8 ≤ x1.toNatClampNeg) ((f_X6_layHand_12 n) (x1 + 1) (pA σ26 80 x1.toNatClampNeg r26))))
def f_X6_layHand (σ : St) : Option (St) :=
  f_X6_layHand_12 FU 0 (pI σ 75 12 (sA σ 76 1))
set_option maxHeartbeats 4000000 in
set_option maxRecDepth 100000 in
theorem w_X6_layHand_12 {p : Program} {l : Launch} {e : Env} {s : State} {m : MethodId} {args : Array Value} {below : List Frame} {meth : Method} {c : Code} {G : GG} (C : Cx p s m args meth c cX6_layHand RX6 wsX6_layHand none 2 G) {res : St} : ∀ (n : Nat) (x1 : Int32) (σ : St), f_X6_layHand_12 n x1 σ = some res → WC p l e 1 s m args below meth c G (QV G res) 2 12 [(0, .ref (G.2.1 75)), (1, .int x1)] [] σ := by
  have hx := C.1
  have hb := C.2.1
  have inX6 : ∀ w ∈ u_ws RX6 TX6 22, w ∈ wsX6_layHand := fun w h => List.mem_cons_of_mem _ (List.mem_append_right _ h)
  intro n
  induction n with
  | zero => intro x1 σ hf; cases hf
  | succ n hrc12 =>
    intro x1 σ hf _ _ _ hR hS hl
    unfold f_X6_layHand_12 at hf
    refine lv_iload_n hx hb dX6_layHand_12 rfl (lv_at hl 1 rfl) ?_
    refine lv_bipush (v := 8) hx hb dX6_layHand_13 (by decide) ?_
    refine lv_icmp_ge (tgt := 36) hx hb dX6_layHand_15 (by decide) (fun c_15 => ?_) (fun c_15 => ?_)
    · replace hf := (if_pos c_15).symm.trans hf
      obtain rfl := Option.some.inj hf
      exact x_vret C hR hS dX6_layHand_36 rfl
    · replace hf := (if_neg c_15).symm.trans hf
      refine lv_aload_n hx hb dX6_layHand_18 rfl (lv_at hl 0 rfl) ?_
      refine x_get C hR inX6 75 (by decide) (cz5 rfl) rfl 6 (by decide) 3 rfl (.ref (G.2.1 80)) rfl dX6_layHand_19 ?_
      refine lv_iload_n hx hb dX6_layHand_22 rfl (lv_at hl 1 rfl) ?_
      refine lv_aload_n hx hb dX6_layHand_23 rfl (lv_at hl 0 rfl) ?_
      refine lv_iload_n hx hb dX6_layHand_24 rfl (lv_at hl 1 rfl) ?_
      refine lv_iconst (v := 1) hx hb dX6_layHand_25 (by decide) ?_
      obtain ⟨r26_, σ26_, hc_26, hf⟩ := bd_some hf
      refine x_cvI C hl.1 hR hS (c_X6_get l G x1 1 σ _ hc_26) gX6_layHand_X6_get rfl hdV_X6_get ⟨Nat.le_of_ble_eq_true rfl, Nat.le_of_ble_eq_true rfl⟩ (by decide) (cz5 rfl) rfl rfl (As := [.int x1, .int 1]) (rest := [.int x1, .ref (G.2.1 80)]) rfl (Nat.le_of_ble_eq_true rfl) ⟨Nat.le_of_ble_eq_true rfl, Nat.le_of_ble_eq_true rfl⟩ dX6_layHand_26 (fun r26 σ26 H locs hq_26 hR hS => ?_)
      obtain ⟨rfl, rfl⟩ := hq_26
      obtain ⟨z_29, hf⟩ := gd_some hf
      refine x_iast C hR hS 80 rfl z_29 (n := x1.toNatClampNeg) rfl dX6_layHand_29 (fun H locs hR hS => ?_)
      refine lv_iinc (v := x1 + 1) (lv' := [(1, .int (x1 + 1)), (0, .ref (G.2.1 75))]) hx hb dX6_layHand_30 hl (k := 1) rfl rfl (by decide) rfl (fun ls hl => ?_)
      refine lv_goto (tgt := 12) hx hb dX6_layHand_33 (by decide) ?_
      exact hrc12 (x1 + 1) _ hf _ _ _ hR hS (lv_sub hl [1, 0] rfl)
set_option maxHeartbeats 4000000 in
set_option maxRecDepth 100000 in
theorem c_X6_layHand (l : Launch) (G : GG) (σ : St) (res : St) (hf : f_X6_layHand σ = some res) : CV l yX6_layHand wsX6_layHand 1 [.ref (G.2.1 75)] G σ (fun u => u = res) := by
  refine x_ent (ret := none) cX6_layHand 2 (by decide) rfl (Nat.le_of_ble_eq_true rfl) ?_
  intro p e s m below meth c ls C hR hS hl
  have C : Cx p s m [.ref (G.2.1 75)].toArray meth c cX6_layHand RX6 wsX6_layHand none 2 G := C
  have hx := C.1
  have hb := C.2.1
  have hl : lv_has ls 2 [(0, .ref (G.2.1 75))] := hl
  have inX6 : ∀ w ∈ u_ws RX6 TX6 22, w ∈ wsX6_layHand := fun w h => List.mem_cons_of_mem _ (List.mem_append_right _ h)
  unfold f_X6_layHand at hf
  refine lv_aload_n hx hb dX6_layHand_0 rfl (lv_at hl 0 rfl) ?_
  refine lv_aload_n hx hb dX6_layHand_1 rfl (lv_at hl 0 rfl) ?_
  refine x_get C hR inX6 75 (by decide) (cz5 rfl) rfl 0 (by decide) 1 rfl (.ref (G.2.1 76)) rfl dX6_layHand_2 ?_
  refine lv_iconst (v := 1) hx hb dX6_layHand_5 (by decide) ?_
  refine x_iald C hR 76 rfl (x_in rfl) (n := 1) rfl (sA σ 76 1) rfl dX6_layHand_6 ?_
  refine x_put (τ := (pI σ 75 12 (sA σ 76 1))) C hR hS inX6 tyX6 tyX6_ok nmX6 75 (by decide) (cz5 rfl) rfl 12 (by decide) (pfI5_12 rfl) pI_o 2 rfl rfl rfl rfl (Nat.le_of_ble_eq_true rfl) dX6_layHand_7 (fun H locs hR hS => ?_)
  refine lv_iconst (v := 0) hx hb dX6_layHand_10 (by decide) ?_
  refine lv_istore_n (lv' := [(1, .int 0), (0, .ref (G.2.1 75))]) hx hb dX6_layHand_11 rfl hl (by decide) rfl (fun ls hl => ?_)
  exact w_X6_layHand_12 C  FU 0 _ hf _ _ _ hR hS (lv_sub hl [1, 0] rfl)
theorem hdV_X6_lockAt : yX6_lockAt.cls = RX6 ∧ yX6_lockAt.cls ≠ "java/lang/invoke/MethodHandle" ∧ yX6_lockAt.cls ≠ "java/lang/invoke/VarHandle" ∧ (parseMethodDescriptor yX6_lockAt.desc).map (fun d => d.parameters.length) = some 2 := by decide +kernel
def f_X6_lockAt (x1 : Int32) (x2 : Int32) (σ : St) : Option (Int32 × St) :=
  (if x1 = 1 then bd (f_X6_locks σ) (fun r6 σ6 => some ((r6 - 1) - x2, σ6)) else some (x2, σ))
set_option maxHeartbeats 4000000 in
set_option maxRecDepth 100000 in
theorem c_X6_lockAt (l : Launch) (G : GG) (x1 : Int32) (x2 : Int32) (σ : St) (res : Int32 × St) (hf : f_X6_lockAt x1 x2 σ = some res) : CI l yX6_lockAt wsX6_lockAt 1 [.ref (G.2.1 75), .int x1, .int x2] G σ (fun r u => r = res.1 ∧ u = res.2) := by
  refine x_ent (ret := (some .int)) cX6_lockAt 3 (by decide) rfl (Nat.le_of_ble_eq_true rfl) ?_
  intro p e s m below meth c ls C hR hS hl
  have C : Cx p s m [.ref (G.2.1 75), .int x1, .int x2].toArray meth c cX6_lockAt RX6 wsX6_lockAt (some .int) 3 G := C
  have hx := C.1
  have hb := C.2.1
  have hl : lv_has ls 3 [(0, .ref (G.2.1 75)), (1, .int x1), (2, .int x2)] := hl
  unfold f_X6_lockAt at hf
  refine lv_iload_n hx hb dX6_lockAt_0 rfl (lv_at hl 1 rfl) ?_
  refine lv_iconst (v := 1) hx hb dX6_lockAt_1 (by decide) ?_
  refine lv_icmp_ne (tgt := 16) hx hb dX6_lockAt_2 (by decide) (fun c_2 => ?_) (fun c_2 => ?_)
  · replace hf := (if_neg c_2).symm.trans hf
    refine lv_iload_n hx hb dX6_lockAt_16 rfl (lv_at hl 2 rfl) ?_
    obtain rfl := Option.some.inj hf
    exact x_iret C hR hS dX6_lockAt_17 ⟨rfl, rfl⟩
  · replace hf := (if_pos c_2).symm.trans hf
    refine lv_aload_n hx hb dX6_lockAt_5 rfl (lv_at hl 0 rfl) ?_
    obtain ⟨r6_, σ6_, hc_6, hf⟩ := bd_some hf
    refine x_cvI C hl.1 hR hS (c_X6_locks l G σ _ hc_6) gX6_lockAt_X6_locks rfl hdV_X6_locks ⟨Nat.le_of_ble_eq_true rfl, Nat.le_of_ble_eq_true rfl⟩ (by decide) (cz5 rfl) rfl rfl (As := []) (rest := []) rfl (Nat.le_of_ble_eq_true rfl) ⟨Nat.le_of_ble_eq_true rfl, Nat.le_of_ble_eq_true rfl⟩ dX6_lockAt_6 (fun r6 σ6 H locs hq_6 hR hS => ?_)
    obtain ⟨rfl, rfl⟩ := hq_6
    refine lv_iconst (v := 1) hx hb dX6_lockAt_9 (by decide) ?_
    refine lv_isub hx hb dX6_lockAt_10 ?_
    refine lv_iload_n hx hb dX6_lockAt_11 rfl (lv_at hl 2 rfl) ?_
    refine lv_isub hx hb dX6_lockAt_12 ?_
    refine lv_goto (tgt := 17) hx hb dX6_lockAt_13 (by decide) ?_
    obtain rfl := Option.some.inj hf
    exact x_iret C hR hS dX6_lockAt_17 ⟨rfl, rfl⟩
theorem hdV_X6_roadFrom : yX6_roadFrom.cls = RX6 ∧ yX6_roadFrom.cls ≠ "java/lang/invoke/MethodHandle" ∧ yX6_roadFrom.cls ≠ "java/lang/invoke/VarHandle" ∧ (parseMethodDescriptor yX6_roadFrom.desc).map (fun d => d.parameters.length) = some 2 := by decide +kernel
def f_X6_roadFrom (x1 : Int32) (x2 : Int32) (σ : St) : Option (Int32 × St) :=
  (if x1 = 1 then bd (f_X6_locks σ) (fun r7 σ7 => bd (f_X6_get ((r7 - 2) - x2) 2 σ7) (fun r19 σ19 => some (r19, σ19))) else bd (f_X6_get x2 2 σ) (fun r19 σ19 => some (r19, σ19)))
set_option maxHeartbeats 4000000 in
set_option maxRecDepth 100000 in
theorem c_X6_roadFrom (l : Launch) (G : GG) (x1 : Int32) (x2 : Int32) (σ : St) (res : Int32 × St) (hf : f_X6_roadFrom x1 x2 σ = some res) : CI l yX6_roadFrom wsX6_roadFrom 1 [.ref (G.2.1 75), .int x1, .int x2] G σ (fun r u => r = res.1 ∧ u = res.2) := by
  refine x_ent (ret := (some .int)) cX6_roadFrom 3 (by decide) rfl (Nat.le_of_ble_eq_true rfl) ?_
  intro p e s m below meth c ls C hR hS hl
  have C : Cx p s m [.ref (G.2.1 75), .int x1, .int x2].toArray meth c cX6_roadFrom RX6 wsX6_roadFrom (some .int) 3 G := C
  have hx := C.1
  have hb := C.2.1
  have hl : lv_has ls 3 [(0, .ref (G.2.1 75)), (1, .int x1), (2, .int x2)] := hl
  unfold f_X6_roadFrom at hf
  refine lv_aload_n hx hb dX6_roadFrom_0 rfl (lv_at hl 0 rfl) ?_
  refine lv_iload_n hx hb dX6_roadFrom_1 rfl (lv_at hl 1 rfl) ?_
  refine lv_iconst (v := 1) hx hb dX6_roadFrom_2 (by decide) ?_
  refine lv_icmp_ne (tgt := 17) hx hb dX6_roadFrom_3 (by decide) (fun c_3 => ?_) (fun c_3 => ?_)
  · replace hf := (if_neg c_3).symm.trans hf
    refine lv_iload_n hx hb dX6_roadFrom_17 rfl (lv_at hl 2 rfl) ?_
    refine lv_iconst (v := 2) hx hb dX6_roadFrom_18 (by decide) ?_
    obtain ⟨r19_, σ19_, hc_19, hf⟩ := bd_some hf
    refine x_cvI C hl.1 hR hS (c_X6_get l G x2 2 σ _ hc_19) gX6_roadFrom_X6_get rfl hdV_X6_get ⟨Nat.le_of_ble_eq_true rfl, Nat.le_of_ble_eq_true rfl⟩ (by decide) (cz5 rfl) rfl rfl (As := [.int x2, .int 2]) (rest := []) rfl (Nat.le_of_ble_eq_true rfl) ⟨Nat.le_of_ble_eq_true rfl, Nat.le_of_ble_eq_true rfl⟩ dX6_roadFrom_19 (fun r19 σ19 H locs hq_19 hR hS => ?_)
    obtain ⟨rfl, rfl⟩ := hq_19
    obtain rfl := Option.some.inj hf
    exact x_iret C hR hS dX6_roadFrom_22 ⟨rfl, rfl⟩
  · replace hf := (if_pos c_3).symm.trans hf
    refine lv_aload_n hx hb dX6_roadFrom_6 rfl (lv_at hl 0 rfl) ?_
    obtain ⟨r7_, σ7_, hc_7, hf⟩ := bd_some hf
    refine x_cvI C hl.1 hR hS (c_X6_locks l G σ _ hc_7) gX6_roadFrom_X6_locks rfl hdV_X6_locks ⟨Nat.le_of_ble_eq_true rfl, Nat.le_of_ble_eq_true rfl⟩ (by decide) (cz5 rfl) rfl rfl (As := []) (rest := [.ref (G.2.1 75)]) rfl (Nat.le_of_ble_eq_true rfl) ⟨Nat.le_of_ble_eq_true rfl, Nat.le_of_ble_eq_true rfl⟩ dX6_roadFrom_7 (fun r7 σ7 H locs hq_7 hR hS => ?_)
    obtain ⟨rfl, rfl⟩ := hq_7
    refine lv_iconst (v := 2) hx hb dX6_roadFrom_10 (by decide) ?_
    refine lv_isub hx hb dX6_roadFrom_11 ?_
    refine lv_iload_n hx hb dX6_roadFrom_12 rfl (lv_at hl 2 rfl) ?_
    refine lv_isub hx hb dX6_roadFrom_13 ?_
    refine lv_goto (tgt := 18) hx hb dX6_roadFrom_14 (by decide) ?_
    refine lv_iconst (v := 2) hx hb dX6_roadFrom_18 (by decide) ?_
    obtain ⟨r19_, σ19_, hc_19, hf⟩ := bd_some hf
    refine x_cvI C hl.1 hR hS (c_X6_get l G ((r7 - 2) - x2) 2 σ7 _ hc_19) gX6_roadFrom_X6_get rfl hdV_X6_get ⟨Nat.le_of_ble_eq_true rfl, Nat.le_of_ble_eq_true rfl⟩ (by decide) (cz5 rfl) rfl rfl (As := [.int ((r7 - 2) - x2), .int 2]) (rest := []) rfl (Nat.le_of_ble_eq_true rfl) ⟨Nat.le_of_ble_eq_true rfl, Nat.le_of_ble_eq_true rfl⟩ dX6_roadFrom_19 (fun r19 σ19 H locs hq_19 hR hS => ?_)
    obtain ⟨rfl, rfl⟩ := hq_19
    obtain rfl := Option.some.inj hf
    exact x_iret C hR hS dX6_roadFrom_22 ⟨rfl, rfl⟩
theorem hdS_X6_walk : yX6_walk.cls ≠ "java/lang/invoke/MethodHandle" ∧ yX6_walk.cls ≠ "java/lang/invoke/VarHandle" ∧ (parseMethodDescriptor yX6_walk.desc).map (fun d => d.parameters.length) = some 2 := by decide +kernel
def f_X6_walk (x0 : Int32) (x1 : Int32) (σ : St) : Option (Int32 × St) :=
  (if x1 = 2 then some ((x0 + 1) / 2, σ) else some (x0, σ))
set_option maxHeartbeats 4000000 in
set_option maxRecDepth 100000 in
theorem c_X6_walk (l : Launch) (G : GG) (x0 : Int32) (x1 : Int32) (σ : St) (res : Int32 × St) (hf : f_X6_walk x0 x1 σ = some res) : CI l yX6_walk wsX6_walk 0 [.int x0, .int x1] G σ (fun r u => r = res.1 ∧ u = res.2) := by
  refine x_ent (ret := (some .int)) cX6_walk 2 (by decide) rfl (Nat.le_of_ble_eq_true rfl) ?_
  intro p e s m below meth c ls C hR hS hl
  have C : Cx p s m [.int x0, .int x1].toArray meth c cX6_walk RX6 wsX6_walk (some .int) 2 G := C
  have hx := C.1
  have hb := C.2.1
  have hl : lv_has ls 2 [(0, .int x0), (1, .int x1)] := hl
  unfold f_X6_walk at hf
  refine lv_iload_n hx hb dX6_walk_0 rfl (lv_at hl 1 rfl) ?_
  refine lv_iconst (v := 2) hx hb dX6_walk_1 (by decide) ?_
  refine lv_icmp_ne (tgt := 13) hx hb dX6_walk_2 (by decide) (fun c_2 => ?_) (fun c_2 => ?_)
  · replace hf := (if_neg c_2).symm.trans hf
    refine lv_iload_n hx hb dX6_walk_13 rfl (lv_at hl 0 rfl) ?_
    obtain rfl := Option.some.inj hf
    exact x_iret C hR hS dX6_walk_14 ⟨rfl, rfl⟩
  · replace hf := (if_pos c_2).symm.trans hf
    refine lv_iload_n hx hb dX6_walk_5 rfl (lv_at hl 0 rfl) ?_
    refine lv_iconst (v := 1) hx hb dX6_walk_6 (by decide) ?_
    refine lv_iadd hx hb dX6_walk_7 ?_
    refine lv_iconst (v := 2) hx hb dX6_walk_8 (by decide) ?_
    refine lv_idiv hx hb dX6_walk_9 (by decide) ?_
    refine lv_goto (tgt := 14) hx hb dX6_walk_10 (by decide) ?_
    obtain rfl := Option.some.inj hf
    exact x_iret C hR hS dX6_walk_14 ⟨rfl, rfl⟩
theorem hdV_X6_goRun : yX6_goRun.cls = RX6 ∧ yX6_goRun.cls ≠ "java/lang/invoke/MethodHandle" ∧ yX6_goRun.cls ≠ "java/lang/invoke/VarHandle" ∧ (parseMethodDescriptor yX6_goRun.desc).map (fun d => d.parameters.length) = some 4 := by decide +kernel
def f_X6_goRun_371 (rc6 : Int32 → Int32 → Int32 → Int32 → Int32 → Int32 → St → Option (Int32 × St)) (x1 : Int32) (x2 : Int32) (x3 : Int32) (x4 : Int32) (x6 : Int32) (x8 : Int32) (σ : St) : Option (Int32 × St) :=
  gd (x6 < 0 ∨ 8 ≤ x6.toNatClampNeg) (bd (f_X6_passedIn x8 (sI σ 75 12) σ) (fun r390 σ390 => gd (x6 < 0 ∨ 8 ≤ x6.toNatClampNeg) (gd (x6 < 0 ∨ 8 ≤ x6.toNatClampNeg) (rc6 x1 x2 x3 x4 (((sA σ 82 x6.toNatClampNeg) + r390) + x4) (x6 + 1) (pA σ390 83 x6.toNatClampNeg (((sA σ 82 x6.toNatClampNeg) + r390) + x4))))))
def f_X6_goRun_331 (rc6 : Int32 → Int32 → Int32 → Int32 → Int32 → Int32 → St → Option (Int32 × St)) (x1 : Int32) (x2 : Int32) (x3 : Int32) (x4 : Int32) (x6 : Int32) (x8 : Int32) (x10 : Int32) (σ : St) : Option (Int32 × St) :=
  (if x10 = 0 then f_X6_goRun_371 rc6 x1 x2 x3 x4 x6 x8 σ else gd (x6 < 0 ∨ 8 ≤ x6.toNatClampNeg) (gd (x6 < 0 ∨ 8 ≤ x6.toNatClampNeg) (gd (x6 < 0 ∨ 8 ≤ x6.toNatClampNeg) (bd (f_X6_readyIn x8 (sI σ 75 12) (pA σ 85 x6.toNatClampNeg ((sA σ 85 x6.toNatClampNeg) + 1))) (fun r366 σ366 => gd (x6 < 0 ∨ 8 ≤ x6.toNatClampNeg) (f_X6_goRun_371 rc6 x1 x2 x3 x4 x6 x8 (pA σ366 82 x6.toNatClampNeg ((sA σ 81 x6.toNatClampNeg) + r366))))))))
def f_X6_goRun_329 (rc6 : Int32 → Int32 → Int32 → Int32 → Int32 → Int32 → St → Option (Int32 × St)) (x1 : Int32) (x2 : Int32) (x3 : Int32) (x4 : Int32) (x6 : Int32) (x8 : Int32) (t0 : Int32) (σ : St) : Option (Int32 × St) :=
  f_X6_goRun_331 rc6 x1 x2 x3 x4 x6 x8 t0 σ
def f_X6_goRun_328 (rc6 : Int32 → Int32 → Int32 → Int32 → Int32 → Int32 → St → Option (Int32 × St)) (x1 : Int32) (x2 : Int32) (x3 : Int32) (x4 : Int32) (x6 : Int32) (x8 : Int32) (σ : St) : Option (Int32 × St) :=
  f_X6_goRun_329 rc6 x1 x2 x3 x4 x6 x8 0 σ
def f_X6_goRun_287 (rc6 : Int32 → Int32 → Int32 → Int32 → Int32 → Int32 → St → Option (Int32 × St)) (x1 : Int32) (x2 : Int32) (x3 : Int32) (x4 : Int32) (x6 : Int32) (x8 : Int32) (x9 : Int32) (t0 : Int32) (t1 : Int32) (σ : St) : Option (Int32 × St) :=
  gd (t1 < 0 ∨ 8 ≤ t1.toNatClampNeg) ((if x9 = 0 then bd (f_X6_staysFor x8 (pA σ 82 t1.toNatClampNeg t0)) (fun r295 σ295 => (if r295 ≤ 0 then f_X6_goRun_328 rc6 x1 x2 x3 x4 x6 x8 σ295 else gd (x6 < 0 ∨ 8 ≤ x6.toNatClampNeg) (gd (x6 < 0 ∨ 8 ≤ x6.toNatClampNeg) (bd (f_X6_staysFor x8 σ295) (fun r318 σ318 => (if ((sA σ295 81 x6.toNatClampNeg) - (sA σ295 84 x6.toNatClampNeg)) ≤ r318 then f_X6_goRun_328 rc6 x1 x2 x3 x4 x6 x8 σ318 else f_X6_goRun_329 rc6 x1 x2 x3 x4 x6 x8 1 σ318)))))) else f_X6_goRun_328 rc6 x1 x2 x3 x4 x6 x8 (pA σ 82 t1.toNatClampNeg t0)))
def f_X6_goRun_246 (rc6 : Int32 → Int32 → Int32 → Int32 → Int32 → Int32 → St → Option (Int32 × St)) (x1 : Int32) (x2 : Int32) (x3 : Int32) (x4 : Int32) (x6 : Int32) (x8 : Int32) (x9 : Int32) (t0 : Int32) (t1 : Int32) (σ : St) : Option (Int32 × St) :=
  gd (t1 < 0 ∨ 8 ≤ t1.toNatClampNeg) (gd (x6 < 0 ∨ 8 ≤ x6.toNatClampNeg) (gd (x6 < 0 ∨ 8 ≤ x6.toNatClampNeg) ((if (sA σ 84 x6.toNatClampNeg) ≤ (sA σ 81 x6.toNatClampNeg) then gd (x6 < 0 ∨ 8 ≤ x6.toNatClampNeg) (f_X6_goRun_287 rc6 x1 x2 x3 x4 x6 x8 x9 (sA σ 81 x6.toNatClampNeg) x6 (pA σ 85 t1.toNatClampNeg t0)) else gd (x6 < 0 ∨ 8 ≤ x6.toNatClampNeg) (f_X6_goRun_287 rc6 x1 x2 x3 x4 x6 x8 x9 (sA σ 84 x6.toNatClampNeg) x6 (pA σ 85 t1.toNatClampNeg t0))))))
def f_X6_goRun_228 (rc6 : Int32 → Int32 → Int32 → Int32 → Int32 → Int32 → St → Option (Int32 × St)) (x1 : Int32) (x2 : Int32) (x3 : Int32) (x4 : Int32) (x6 : Int32) (x8 : Int32) (x9 : Int32) (t0 : Int32) (t1 : Int32) (t2 : Int32) (σ : St) : Option (Int32 × St) :=
  gd (t2 < 0 ∨ 8 ≤ t2.toNatClampNeg) ((if x9 = 0 then f_X6_goRun_246 rc6 x1 x2 x3 x4 x6 x8 x9 1 x6 (pA σ 84 t2.toNatClampNeg (t1 + t0)) else f_X6_goRun_246 rc6 x1 x2 x3 x4 x6 x8 x9 0 x6 (pA σ 84 t2.toNatClampNeg (t1 + t0))))
def f_X6_goRun_202 (rc6 : Int32 → Int32 → Int32 → Int32 → Int32 → Int32 → St → Option (Int32 × St)) (x1 : Int32) (x2 : Int32) (x3 : Int32) (x4 : Int32) (x6 : Int32) (x8 : Int32) (x9 : Int32) (x11 : Int32) (σ : St) : Option (Int32 × St) :=
  (if x9 = 0 then bd (f_X6_readyIn x8 (sI σ 75 12) σ) (fun r225 σ225 => f_X6_goRun_228 rc6 x1 x2 x3 x4 x6 x8 x9 r225 x11 x6 σ225) else f_X6_goRun_228 rc6 x1 x2 x3 x4 x6 x8 x9 0 x11 x6 σ)
def f_X6_goRun_182 (rc6 : Int32 → Int32 → Int32 → Int32 → Int32 → Int32 → St → Option (Int32 × St)) (x1 : Int32) (x2 : Int32) (x3 : Int32) (x4 : Int32) (x6 : Int32) (x8 : Int32) (x9 : Int32) (t0 : Int32) (σ : St) : Option (Int32 × St) :=
  bd (f_X6_roadFrom x1 (x6 - 1) σ) (fun r192 σ192 => bd (f_X6_walk r192 x2 σ192) (fun r196 σ196 => f_X6_goRun_202 rc6 x1 x2 x3 x4 x6 x8 x9 (t0 + r196) σ196))
def f_X6_goRun_180 (rc6 : Int32 → Int32 → Int32 → Int32 → Int32 → Int32 → St → Option (Int32 × St)) (x1 : Int32) (x2 : Int32) (x3 : Int32) (x4 : Int32) (x6 : Int32) (x8 : Int32) (x9 : Int32) (x11 : Int32) (σ : St) : Option (Int32 × St) :=
  f_X6_goRun_182 rc6 x1 x2 x3 x4 x6 x8 x9 x11 σ
def f_X6_goRun_123 (rc6 : Int32 → Int32 → Int32 → Int32 → Int32 → Int32 → St → Option (Int32 × St)) (x1 : Int32) (x2 : Int32) (x3 : Int32) (x4 : Int32) (x6 : Int32) (x8 : Int32) (x9 : Int32) (t0 : Int32) (σ : St) : Option (Int32 × St) :=
  (if x2 ≤ 0 then f_X6_goRun_331 rc6 x1 x2 x3 x4 x6 x8 t0 σ else (if x6 ≤ 0 then f_X6_goRun_202 rc6 x1 x2 x3 x4 x6 x8 x9 0 σ else gd ((x6 - 1) < 0 ∨ 8 ≤ (x6 - 1).toNatClampNeg) ((if x6 < x3 then f_X6_goRun_180 rc6 x1 x2 x3 x4 x6 x8 x9 (sA σ 84 ((x6 - 1).toNatClampNeg)) σ else gd ((x6 - x3) < 0 ∨ 8 ≤ (x6 - x3).toNatClampNeg) ((if (sA σ 81 ((x6 - x3).toNatClampNeg)) ≤ (sA σ 84 ((x6 - 1).toNatClampNeg)) then f_X6_goRun_180 rc6 x1 x2 x3 x4 x6 x8 x9 (sA σ 84 ((x6 - 1).toNatClampNeg)) σ else gd ((x6 - x3) < 0 ∨ 8 ≤ (x6 - x3).toNatClampNeg) (f_X6_goRun_182 rc6 x1 x2 x3 x4 x6 x8 x9 (sA σ 81 ((x6 - x3).toNatClampNeg)) σ)))))))
def f_X6_goRun_122 (rc6 : Int32 → Int32 → Int32 → Int32 → Int32 → Int32 → St → Option (Int32 × St)) (x1 : Int32) (x2 : Int32) (x3 : Int32) (x4 : Int32) (x6 : Int32) (x8 : Int32) (x9 : Int32) (σ : St) : Option (Int32 × St) :=
  f_X6_goRun_123 rc6 x1 x2 x3 x4 x6 x8 x9 0 σ
def f_X6_goRun_78 (rc6 : Int32 → Int32 → Int32 → Int32 → Int32 → Int32 → St → Option (Int32 × St)) (x1 : Int32) (x2 : Int32) (x3 : Int32) (x4 : Int32) (x6 : Int32) (x8 : Int32) (x9 : Int32) (t0 : Int32) (t1 : Int32) (σ : St) : Option (Int32 × St) :=
  gd (t1 < 0 ∨ 8 ≤ t1.toNatClampNeg) (gd (x6 < 0 ∨ 8 ≤ x6.toNatClampNeg) (gd (x6 < 0 ∨ 8 ≤ x6.toNatClampNeg) (gd (x6 < 0 ∨ 8 ≤ x6.toNatClampNeg) (gd (x6 < 0 ∨ 8 ≤ x6.toNatClampNeg) ((if x2 = 0 then (if x9 = 0 then f_X6_goRun_123 rc6 x1 x2 x3 x4 x6 x8 x9 1 (pA (pA (pA (pA σ 81 t1.toNatClampNeg t0) 85 x6.toNatClampNeg 0) 84 x6.toNatClampNeg (-1)) 82 x6.toNatClampNeg (sA (pA σ 81 t1.toNatClampNeg t0) 81 x6.toNatClampNeg)) else f_X6_goRun_122 rc6 x1 x2 x3 x4 x6 x8 x9 (pA (pA (pA (pA σ 81 t1.toNatClampNeg t0) 85 x6.toNatClampNeg 0) 84 x6.toNatClampNeg (-1)) 82 x6.toNatClampNeg (sA (pA σ 81 t1.toNatClampNeg t0) 81 x6.toNatClampNeg))) else f_X6_goRun_122 rc6 x1 x2 x3 x4 x6 x8 x9 (pA (pA (pA (pA σ 81 t1.toNatClampNeg t0) 85 x6.toNatClampNeg 0) 84 x6.toNatClampNeg (-1)) 82 x6.toNatClampNeg (sA (pA σ 81 t1.toNatClampNeg t0) 81 x6.toNatClampNeg))))))))
def f_X6_goRun_49 (rc6 : Int32 → Int32 → Int32 → Int32 → Int32 → Int32 → St → Option (Int32 × St)) (x1 : Int32) (x2 : Int32) (x3 : Int32) (x4 : Int32) (x5 : Int32) (x6 : Int32) (x8 : Int32) (t0 : Int32) (σ : St) : Option (Int32 × St) :=
  (if x6 = 0 then f_X6_goRun_78 rc6 x1 x2 x3 x4 x6 x8 t0 0 x6 σ else bd (f_X6_roadFrom x1 (x6 - 1) σ) (fun r74 σ74 => f_X6_goRun_78 rc6 x1 x2 x3 x4 x6 x8 t0 (x5 + r74) x6 σ74))
def f_X6_goRun_6 : Nat → Int32 → Int32 → Int32 → Int32 → Int32 → Int32 → St → Option (Int32 × St)
  | 0, _, _, _, _, _, _, _ => none
  | n + 1, x1, x2, x3, x4, x5, x6, σ => bd (f_X6_locks σ) (fun r9 σ9 => (if r9 ≤ x6 then some (x5, σ9) else bd (f_X6_lockAt x1 x6 σ9) (fun r19 σ19 => bd (f_X6_get r19 0 σ19) (fun r28 σ28 => gd (r19 < 0 ∨ 8 ≤ r19.toNatClampNeg) ((if (sA σ28 80 r19.toNatClampNeg) = x1 then f_X6_goRun_49 (f_X6_goRun_6 n) x1 x2 x3 x4 x5 x6 r28 1 σ28 else f_X6_goRun_49 (f_X6_goRun_6 n) x1 x2 x3 x4 x5 x6 r28 0 σ28))))))
def f_X6_goRun (x1 : Int32) (x2 : Int32) (x3 : Int32) (x4 : Int32) (σ : St) : Option (Int32 × St) :=
  f_X6_goRun_6 FU x1 x2 x3 x4 0 0 σ
set_option maxHeartbeats 4000000 in
set_option maxRecDepth 100000 in
theorem w_X6_goRun_371 {p : Program} {l : Launch} {e : Env} {s : State} {m : MethodId} {args : Array Value} {below : List Frame} {meth : Method} {c : Code} {G : GG} (C : Cx p s m args meth c cX6_goRun RX6 wsX6_goRun (some .int) 12 G) {res : Int32 × St} {rc6 : Int32 → Int32 → Int32 → Int32 → Int32 → Int32 → St → Option (Int32 × St)} (hrc6 : ∀ (x1 : Int32) (x2 : Int32) (x3 : Int32) (x4 : Int32) (x5 : Int32) (x6 : Int32) (σ : St), rc6 x1 x2 x3 x4 x5 x6 σ = some res → WC p l e 2 s m args below meth c G (QI G res) 12 6 [(0, .ref (G.2.1 75)), (1, .int x1), (2, .int x2), (3, .int x3), (4, .int x4), (5, .int x5), (6, .int x6)] [] σ) : ∀ (x1 : Int32) (x2 : Int32) (x3 : Int32) (x4 : Int32) (x6 : Int32) (x8 : Int32) (σ : St), f_X6_goRun_371 rc6 x1 x2 x3 x4 x6 x8 σ = some res → WC p l e 2 s m args below meth c G (QI G res) 12 371 [(0, .ref (G.2.1 75)), (1, .int x1), (2, .int x2), (3, .int x3), (4, .int x4), (6, .int x6), (8, .int x8)] [] σ := by
  have hx := C.1
  have hb := C.2.1
  have inX6 : ∀ w ∈ u_ws RX6 TX6 22, w ∈ wsX6_goRun := fun w h => List.mem_cons_of_mem _ (List.mem_append_right _ h)
  intro x1 x2 x3 x4 x6 x8 σ hf _ _ _ hR hS hl
  unfold f_X6_goRun_371 at hf
  refine lv_aload_n hx hb dX6_goRun_371 rfl (lv_at hl 0 rfl) ?_
  refine x_get C hR inX6 75 (by decide) (cz5 rfl) rfl 9 (by decide) 7 rfl (.ref (G.2.1 83)) rfl dX6_goRun_372 ?_
  refine lv_iload hx hb dX6_goRun_375 (lv_at hl 5 rfl) ?_
  refine lv_aload_n hx hb dX6_goRun_377 rfl (lv_at hl 0 rfl) ?_
  refine x_get C hR inX6 75 (by decide) (cz5 rfl) rfl 8 (by decide) 5 rfl (.ref (G.2.1 82)) rfl dX6_goRun_378 ?_
  refine lv_iload hx hb dX6_goRun_381 (lv_at hl 5 rfl) ?_
  obtain ⟨z_383, hf⟩ := gd_some hf
  refine x_iald C hR 82 rfl z_383 (n := x6.toNatClampNeg) rfl (sA σ 82 x6.toNatClampNeg) rfl dX6_goRun_383 ?_
  refine lv_iload hx hb dX6_goRun_384 (lv_at hl 6 rfl) ?_
  refine lv_aload_n hx hb dX6_goRun_386 rfl (lv_at hl 0 rfl) ?_
  refine x_get C hR inX6 75 (by decide) (cz5 rfl) rfl 12 (by decide) 6 rfl (.int (sI σ 75 12)) rfl dX6_goRun_387 ?_
  obtain ⟨r390_, σ390_, hc_390, hf⟩ := bd_some hf
  refine x_csI C hl.1 hR hS (c_X6_passedIn l G x8 (sI σ 75 12) σ _ hc_390) gX6_goRun_X6_passedIn rfl hdS_X6_passedIn ⟨Nat.le_of_ble_eq_true rfl, Nat.le_of_ble_eq_true rfl⟩ rfl (As := [.int x8, .int (sI σ 75 12)]) (rest := [.int (sA σ 82 x6.toNatClampNeg), .int x6, .ref (G.2.1 83)]) rfl (Nat.le_of_ble_eq_true rfl) ⟨Nat.le_of_ble_eq_true rfl, Nat.le_of_ble_eq_true rfl⟩ dX6_goRun_390 (fun r390 σ390 H locs hq_390 hR hS => ?_)
  obtain ⟨rfl, rfl⟩ := hq_390
  refine lv_iadd hx hb dX6_goRun_393 ?_
  refine lv_iload hx hb dX6_goRun_394 (lv_at hl 4 rfl) ?_
  refine lv_iadd hx hb dX6_goRun_396 ?_
  obtain ⟨z_397, hf⟩ := gd_some hf
  refine x_iast C hR hS 83 rfl z_397 (n := x6.toNatClampNeg) rfl dX6_goRun_397 (fun H locs hR hS => ?_)
  refine lv_aload_n hx hb dX6_goRun_398 rfl (lv_at hl 0 rfl) ?_
  refine x_get C hR inX6 75 (by decide) (cz5 rfl) rfl 9 (by decide) 7 rfl (.ref (G.2.1 83)) rfl dX6_goRun_399 ?_
  refine lv_iload hx hb dX6_goRun_402 (lv_at hl 5 rfl) ?_
  obtain ⟨z_404, hf⟩ := gd_some hf
  refine x_iald C hR 83 rfl z_404 (n := x6.toNatClampNeg) rfl (((sA σ 82 x6.toNatClampNeg) + r390) + x4) (by first | rfl | exact sA_self | (simp only [sA_pA, sA_pI, sA_pL]; simp)) dX6_goRun_404 ?_
  refine lv_istore (lv' := [(5, .int (((sA σ 82 x6.toNatClampNeg) + r390) + x4)), (0, .ref (G.2.1 75)), (1, .int x1), (2, .int x2), (3, .int x3), (4, .int x4), (6, .int x6), (8, .int x8)]) hx hb dX6_goRun_405 hl (by decide) rfl (fun ls hl => ?_)
  refine lv_iinc (v := x6 + 1) (lv' := [(6, .int (x6 + 1)), (5, .int (((sA σ 82 x6.toNatClampNeg) + r390) + x4)), (0, .ref (G.2.1 75)), (1, .int x1), (2, .int x2), (3, .int x3), (4, .int x4), (8, .int x8)]) hx hb dX6_goRun_407 hl (k := 6) rfl rfl (by decide) rfl (fun ls hl => ?_)
  refine lv_goto (tgt := 6) hx hb dX6_goRun_410 (by decide) ?_
  exact hrc6 x1 x2 x3 x4 (((sA σ 82 x6.toNatClampNeg) + r390) + x4) (x6 + 1) _ hf _ _ _ hR hS (lv_sub hl [2, 3, 4, 5, 6, 1, 0] rfl)
set_option maxHeartbeats 4000000 in
set_option maxRecDepth 100000 in
theorem w_X6_goRun_331 {p : Program} {l : Launch} {e : Env} {s : State} {m : MethodId} {args : Array Value} {below : List Frame} {meth : Method} {c : Code} {G : GG} (C : Cx p s m args meth c cX6_goRun RX6 wsX6_goRun (some .int) 12 G) {res : Int32 × St} {rc6 : Int32 → Int32 → Int32 → Int32 → Int32 → Int32 → St → Option (Int32 × St)} (hrc6 : ∀ (x1 : Int32) (x2 : Int32) (x3 : Int32) (x4 : Int32) (x5 : Int32) (x6 : Int32) (σ : St), rc6 x1 x2 x3 x4 x5 x6 σ = some res → WC p l e 2 s m args below meth c G (QI G res) 12 6 [(0, .ref (G.2.1 75)), (1, .int x1), (2, .int x2), (3, .int x3), (4, .int x4), (5, .int x5), (6, .int x6)] [] σ) : ∀ (x1 : Int32) (x2 : Int32) (x3 : Int32) (x4 : Int32) (x6 : Int32) (x8 : Int32) (x10 : Int32) (σ : St), f_X6_goRun_331 rc6 x1 x2 x3 x4 x6 x8 x10 σ = some res → WC p l e 2 s m args below meth c G (QI G res) 12 331 [(0, .ref (G.2.1 75)), (1, .int x1), (2, .int x2), (3, .int x3), (4, .int x4), (6, .int x6), (8, .int x8), (10, .int x10)] [] σ := by
  have hx := C.1
  have hb := C.2.1
  have inX6 : ∀ w ∈ u_ws RX6 TX6 22, w ∈ wsX6_goRun := fun w h => List.mem_cons_of_mem _ (List.mem_append_right _ h)
  intro x1 x2 x3 x4 x6 x8 x10 σ hf _ _ _ hR hS hl
  unfold f_X6_goRun_331 at hf
  refine lv_iload hx hb dX6_goRun_331 (lv_at hl 7 rfl) ?_
  refine lv_if_eq (tgt := 371) hx hb dX6_goRun_333 (by decide) (fun c_333 => ?_) (fun c_333 => ?_)
  · replace hf := (if_pos c_333).symm.trans hf
    exact w_X6_goRun_371 C hrc6 x1 x2 x3 x4 x6 x8 _ hf _ _ _ hR hS (lv_sub hl [0, 1, 2, 3, 4, 5, 6] rfl)
  · replace hf := (if_neg c_333).symm.trans hf
    refine lv_aload_n hx hb dX6_goRun_336 rfl (lv_at hl 0 rfl) ?_
    refine x_get C hR inX6 75 (by decide) (cz5 rfl) rfl 11 (by decide) 3 rfl (.ref (G.2.1 85)) rfl dX6_goRun_337 ?_
    refine lv_iload hx hb dX6_goRun_340 (lv_at hl 5 rfl) ?_
    refine lv_dup2_11 hx hb dX6_goRun_342 rfl rfl ?_
    obtain ⟨z_343, hf⟩ := gd_some hf
    refine x_iald C hR 85 rfl z_343 (n := x6.toNatClampNeg) rfl (sA σ 85 x6.toNatClampNeg) rfl dX6_goRun_343 ?_
    refine lv_iconst (v := 1) hx hb dX6_goRun_344 (by decide) ?_
    refine lv_iadd hx hb dX6_goRun_345 ?_
    obtain ⟨z_346, hf⟩ := gd_some hf
    refine x_iast C hR hS 85 rfl z_346 (n := x6.toNatClampNeg) rfl dX6_goRun_346 (fun H locs hR hS => ?_)
    refine lv_aload_n hx hb dX6_goRun_347 rfl (lv_at hl 0 rfl) ?_
    refine x_get C hR inX6 75 (by decide) (cz5 rfl) rfl 8 (by decide) 5 rfl (.ref (G.2.1 82)) rfl dX6_goRun_348 ?_
    refine lv_iload hx hb dX6_goRun_351 (lv_at hl 5 rfl) ?_
    refine lv_aload_n hx hb dX6_goRun_353 rfl (lv_at hl 0 rfl) ?_
    refine x_get C hR inX6 75 (by decide) (cz5 rfl) rfl 7 (by decide) 2 rfl (.ref (G.2.1 81)) rfl dX6_goRun_354 ?_
    refine lv_iload hx hb dX6_goRun_357 (lv_at hl 5 rfl) ?_
    obtain ⟨z_359, hf⟩ := gd_some hf
    refine x_iald C hR 81 rfl z_359 (n := x6.toNatClampNeg) rfl (sA σ 81 x6.toNatClampNeg) rfl dX6_goRun_359 ?_
    refine lv_iload hx hb dX6_goRun_360 (lv_at hl 6 rfl) ?_
    refine lv_aload_n hx hb dX6_goRun_362 rfl (lv_at hl 0 rfl) ?_
    refine x_get C hR inX6 75 (by decide) (cz5 rfl) rfl 12 (by decide) 6 rfl (.int (sI σ 75 12)) rfl dX6_goRun_363 ?_
    obtain ⟨r366_, σ366_, hc_366, hf⟩ := bd_some hf
    refine x_csI C hl.1 hR hS (c_X6_readyIn l G x8 (sI σ 75 12) (pA σ 85 x6.toNatClampNeg ((sA σ 85 x6.toNatClampNeg) + 1)) _ hc_366) gX6_goRun_X6_readyIn rfl hdS_X6_readyIn ⟨Nat.le_of_ble_eq_true rfl, Nat.le_of_ble_eq_true rfl⟩ rfl (As := [.int x8, .int (sI σ 75 12)]) (rest := [.int (sA σ 81 x6.toNatClampNeg), .int x6, .ref (G.2.1 82)]) rfl (Nat.le_of_ble_eq_true rfl) ⟨Nat.le_of_ble_eq_true rfl, Nat.le_of_ble_eq_true rfl⟩ dX6_goRun_366 (fun r366 σ366 H locs hq_366 hR hS => ?_)
    obtain ⟨rfl, rfl⟩ := hq_366
    refine lv_iadd hx hb dX6_goRun_369 ?_
    obtain ⟨z_370, hf⟩ := gd_some hf
    refine x_iast C hR hS 82 rfl z_370 (n := x6.toNatClampNeg) rfl dX6_goRun_370 (fun H locs hR hS => ?_)
    exact w_X6_goRun_371 C hrc6 x1 x2 x3 x4 x6 x8 _ hf _ _ _ hR hS (lv_sub hl [0, 1, 2, 3, 4, 5, 6] rfl)
set_option maxHeartbeats 4000000 in
set_option maxRecDepth 100000 in
theorem w_X6_goRun_329 {p : Program} {l : Launch} {e : Env} {s : State} {m : MethodId} {args : Array Value} {below : List Frame} {meth : Method} {c : Code} {G : GG} (C : Cx p s m args meth c cX6_goRun RX6 wsX6_goRun (some .int) 12 G) {res : Int32 × St} {rc6 : Int32 → Int32 → Int32 → Int32 → Int32 → Int32 → St → Option (Int32 × St)} (hrc6 : ∀ (x1 : Int32) (x2 : Int32) (x3 : Int32) (x4 : Int32) (x5 : Int32) (x6 : Int32) (σ : St), rc6 x1 x2 x3 x4 x5 x6 σ = some res → WC p l e 2 s m args below meth c G (QI G res) 12 6 [(0, .ref (G.2.1 75)), (1, .int x1), (2, .int x2), (3, .int x3), (4, .int x4), (5, .int x5), (6, .int x6)] [] σ) : ∀ (x1 : Int32) (x2 : Int32) (x3 : Int32) (x4 : Int32) (x6 : Int32) (x8 : Int32) (t0 : Int32) (σ : St), f_X6_goRun_329 rc6 x1 x2 x3 x4 x6 x8 t0 σ = some res → WC p l e 2 s m args below meth c G (QI G res) 12 329 [(0, .ref (G.2.1 75)), (1, .int x1), (2, .int x2), (3, .int x3), (4, .int x4), (6, .int x6), (8, .int x8)] [.int t0] σ := by
  have hx := C.1
  have hb := C.2.1
  have inX6 : ∀ w ∈ u_ws RX6 TX6 22, w ∈ wsX6_goRun := fun w h => List.mem_cons_of_mem _ (List.mem_append_right _ h)
  intro x1 x2 x3 x4 x6 x8 t0 σ hf _ _ _ hR hS hl
  unfold f_X6_goRun_329 at hf
  refine lv_istore (lv' := [(10, .int t0), (0, .ref (G.2.1 75)), (1, .int x1), (2, .int x2), (3, .int x3), (4, .int x4), (6, .int x6), (8, .int x8)]) hx hb dX6_goRun_329 hl (by decide) rfl (fun ls hl => ?_)
  exact w_X6_goRun_331 C hrc6 x1 x2 x3 x4 x6 x8 t0 _ hf _ _ _ hR hS (lv_sub hl [1, 2, 3, 4, 5, 6, 7, 0] rfl)
set_option maxHeartbeats 4000000 in
set_option maxRecDepth 100000 in
theorem w_X6_goRun_328 {p : Program} {l : Launch} {e : Env} {s : State} {m : MethodId} {args : Array Value} {below : List Frame} {meth : Method} {c : Code} {G : GG} (C : Cx p s m args meth c cX6_goRun RX6 wsX6_goRun (some .int) 12 G) {res : Int32 × St} {rc6 : Int32 → Int32 → Int32 → Int32 → Int32 → Int32 → St → Option (Int32 × St)} (hrc6 : ∀ (x1 : Int32) (x2 : Int32) (x3 : Int32) (x4 : Int32) (x5 : Int32) (x6 : Int32) (σ : St), rc6 x1 x2 x3 x4 x5 x6 σ = some res → WC p l e 2 s m args below meth c G (QI G res) 12 6 [(0, .ref (G.2.1 75)), (1, .int x1), (2, .int x2), (3, .int x3), (4, .int x4), (5, .int x5), (6, .int x6)] [] σ) : ∀ (x1 : Int32) (x2 : Int32) (x3 : Int32) (x4 : Int32) (x6 : Int32) (x8 : Int32) (σ : St), f_X6_goRun_328 rc6 x1 x2 x3 x4 x6 x8 σ = some res → WC p l e 2 s m args below meth c G (QI G res) 12 328 [(0, .ref (G.2.1 75)), (1, .int x1), (2, .int x2), (3, .int x3), (4, .int x4), (6, .int x6), (8, .int x8)] [] σ := by
  have hx := C.1
  have hb := C.2.1
  have inX6 : ∀ w ∈ u_ws RX6 TX6 22, w ∈ wsX6_goRun := fun w h => List.mem_cons_of_mem _ (List.mem_append_right _ h)
  intro x1 x2 x3 x4 x6 x8 σ hf _ _ _ hR hS hl
  unfold f_X6_goRun_328 at hf
  refine lv_iconst (v := 0) hx hb dX6_goRun_328 (by decide) ?_
  exact w_X6_goRun_329 C hrc6 x1 x2 x3 x4 x6 x8 0 _ hf _ _ _ hR hS (lv_sub hl [0, 1, 2, 3, 4, 5, 6] rfl)
set_option maxHeartbeats 4000000 in
set_option maxRecDepth 100000 in
theorem w_X6_goRun_287 {p : Program} {l : Launch} {e : Env} {s : State} {m : MethodId} {args : Array Value} {below : List Frame} {meth : Method} {c : Code} {G : GG} (C : Cx p s m args meth c cX6_goRun RX6 wsX6_goRun (some .int) 12 G) {res : Int32 × St} {rc6 : Int32 → Int32 → Int32 → Int32 → Int32 → Int32 → St → Option (Int32 × St)} (hrc6 : ∀ (x1 : Int32) (x2 : Int32) (x3 : Int32) (x4 : Int32) (x5 : Int32) (x6 : Int32) (σ : St), rc6 x1 x2 x3 x4 x5 x6 σ = some res → WC p l e 2 s m args below meth c G (QI G res) 12 6 [(0, .ref (G.2.1 75)), (1, .int x1), (2, .int x2), (3, .int x3), (4, .int x4), (5, .int x5), (6, .int x6)] [] σ) : ∀ (x1 : Int32) (x2 : Int32) (x3 : Int32) (x4 : Int32) (x6 : Int32) (x8 : Int32) (x9 : Int32) (t0 : Int32) (t1 : Int32) (σ : St), f_X6_goRun_287 rc6 x1 x2 x3 x4 x6 x8 x9 t0 t1 σ = some res → WC p l e 2 s m args below meth c G (QI G res) 12 287 [(0, .ref (G.2.1 75)), (1, .int x1), (2, .int x2), (3, .int x3), (4, .int x4), (6, .int x6), (8, .int x8), (9, .int x9)] [.int t0, .int t1, .ref (G.2.1 82)] σ := by
  have hx := C.1
  have hb := C.2.1
  have inX6 : ∀ w ∈ u_ws RX6 TX6 22, w ∈ wsX6_goRun := fun w h => List.mem_cons_of_mem _ (List.mem_append_right _ h)
  intro x1 x2 x3 x4 x6 x8 x9 t0 t1 σ hf _ _ _ hR hS hl
  unfold f_X6_goRun_287 at hf
  obtain ⟨z_287, hf⟩ := gd_some hf
  refine x_iast C hR hS 82 rfl z_287 (n := t1.toNatClampNeg) rfl dX6_goRun_287 (fun H locs hR hS => ?_)
  refine lv_iload hx hb dX6_goRun_288 (lv_at hl 7 rfl) ?_
  refine lv_if_ne (tgt := 328) hx hb dX6_goRun_290 (by decide) (fun c_290 => ?_) (fun c_290 => ?_)
  · replace hf := (if_neg c_290).symm.trans hf
    exact w_X6_goRun_328 C hrc6 x1 x2 x3 x4 x6 x8 _ hf _ _ _ hR hS (lv_sub hl [0, 1, 2, 3, 4, 5, 6] rfl)
  · replace hf := (if_pos c_290).symm.trans hf
    refine lv_iload hx hb dX6_goRun_293 (lv_at hl 6 rfl) ?_
    obtain ⟨r295_, σ295_, hc_295, hf⟩ := bd_some hf
    refine x_csI C hl.1 hR hS (c_X6_staysFor l G x8 (pA σ 82 t1.toNatClampNeg t0) _ hc_295) gX6_goRun_X6_staysFor rfl hdS_X6_staysFor ⟨Nat.le_of_ble_eq_true rfl, Nat.le_of_ble_eq_true rfl⟩ rfl (As := [.int x8]) (rest := []) rfl (Nat.le_of_ble_eq_true rfl) ⟨Nat.le_of_ble_eq_true rfl, Nat.le_of_ble_eq_true rfl⟩ dX6_goRun_295 (fun r295 σ295 H locs hq_295 hR hS => ?_)
    obtain ⟨rfl, rfl⟩ := hq_295
    refine lv_if_le (tgt := 328) hx hb dX6_goRun_298 (by decide) (fun c_298 => ?_) (fun c_298 => ?_)
    · replace hf := (if_pos c_298).symm.trans hf
      exact w_X6_goRun_328 C hrc6 x1 x2 x3 x4 x6 x8 _ hf _ _ _ hR hS (lv_sub hl [0, 1, 2, 3, 4, 5, 6] rfl)
    · replace hf := (if_neg c_298).symm.trans hf
      refine lv_aload_n hx hb dX6_goRun_301 rfl (lv_at hl 0 rfl) ?_
      refine x_get C hR inX6 75 (by decide) (cz5 rfl) rfl 7 (by decide) 2 rfl (.ref (G.2.1 81)) rfl dX6_goRun_302 ?_
      refine lv_iload hx hb dX6_goRun_305 (lv_at hl 5 rfl) ?_
      obtain ⟨z_307, hf⟩ := gd_some hf
      refine x_iald C hR 81 rfl z_307 (n := x6.toNatClampNeg) rfl (sA σ295 81 x6.toNatClampNeg) rfl dX6_goRun_307 ?_
      refine lv_aload_n hx hb dX6_goRun_308 rfl (lv_at hl 0 rfl) ?_
      refine x_get C hR inX6 75 (by decide) (cz5 rfl) rfl 10 (by decide) 4 rfl (.ref (G.2.1 84)) rfl dX6_goRun_309 ?_
      refine lv_iload hx hb dX6_goRun_312 (lv_at hl 5 rfl) ?_
      obtain ⟨z_314, hf⟩ := gd_some hf
      refine x_iald C hR 84 rfl z_314 (n := x6.toNatClampNeg) rfl (sA σ295 84 x6.toNatClampNeg) rfl dX6_goRun_314 ?_
      refine lv_isub hx hb dX6_goRun_315 ?_
      refine lv_iload hx hb dX6_goRun_316 (lv_at hl 6 rfl) ?_
      obtain ⟨r318_, σ318_, hc_318, hf⟩ := bd_some hf
      refine x_csI C hl.1 hR hS (c_X6_staysFor l G x8 σ295 _ hc_318) gX6_goRun_X6_staysFor rfl hdS_X6_staysFor ⟨Nat.le_of_ble_eq_true rfl, Nat.le_of_ble_eq_true rfl⟩ rfl (As := [.int x8]) (rest := [.int ((sA σ295 81 x6.toNatClampNeg) - (sA σ295 84 x6.toNatClampNeg))]) rfl (Nat.le_of_ble_eq_true rfl) ⟨Nat.le_of_ble_eq_true rfl, Nat.le_of_ble_eq_true rfl⟩ dX6_goRun_318 (fun r318 σ318 H locs hq_318 hR hS => ?_)
      obtain ⟨rfl, rfl⟩ := hq_318
      refine lv_icmp_le (tgt := 328) hx hb dX6_goRun_321 (by decide) (fun c_321 => ?_) (fun c_321 => ?_)
      · replace hf := (if_pos c_321).symm.trans hf
        exact w_X6_goRun_328 C hrc6 x1 x2 x3 x4 x6 x8 _ hf _ _ _ hR hS (lv_sub hl [0, 1, 2, 3, 4, 5, 6] rfl)
      · replace hf := (if_neg c_321).symm.trans hf
        refine lv_iconst (v := 1) hx hb dX6_goRun_324 (by decide) ?_
        refine lv_goto (tgt := 329) hx hb dX6_goRun_325 (by decide) ?_
        exact w_X6_goRun_329 C hrc6 x1 x2 x3 x4 x6 x8 1 _ hf _ _ _ hR hS (lv_sub hl [0, 1, 2, 3, 4, 5, 6] rfl)
set_option maxHeartbeats 4000000 in
set_option maxRecDepth 100000 in
theorem w_X6_goRun_246 {p : Program} {l : Launch} {e : Env} {s : State} {m : MethodId} {args : Array Value} {below : List Frame} {meth : Method} {c : Code} {G : GG} (C : Cx p s m args meth c cX6_goRun RX6 wsX6_goRun (some .int) 12 G) {res : Int32 × St} {rc6 : Int32 → Int32 → Int32 → Int32 → Int32 → Int32 → St → Option (Int32 × St)} (hrc6 : ∀ (x1 : Int32) (x2 : Int32) (x3 : Int32) (x4 : Int32) (x5 : Int32) (x6 : Int32) (σ : St), rc6 x1 x2 x3 x4 x5 x6 σ = some res → WC p l e 2 s m args below meth c G (QI G res) 12 6 [(0, .ref (G.2.1 75)), (1, .int x1), (2, .int x2), (3, .int x3), (4, .int x4), (5, .int x5), (6, .int x6)] [] σ) : ∀ (x1 : Int32) (x2 : Int32) (x3 : Int32) (x4 : Int32) (x6 : Int32) (x8 : Int32) (x9 : Int32) (t0 : Int32) (t1 : Int32) (σ : St), f_X6_goRun_246 rc6 x1 x2 x3 x4 x6 x8 x9 t0 t1 σ = some res → WC p l e 2 s m args below meth c G (QI G res) 12 246 [(0, .ref (G.2.1 75)), (1, .int x1), (2, .int x2), (3, .int x3), (4, .int x4), (6, .int x6), (8, .int x8), (9, .int x9)] [.int t0, .int t1, .ref (G.2.1 85)] σ := by
  have hx := C.1
  have hb := C.2.1
  have inX6 : ∀ w ∈ u_ws RX6 TX6 22, w ∈ wsX6_goRun := fun w h => List.mem_cons_of_mem _ (List.mem_append_right _ h)
  intro x1 x2 x3 x4 x6 x8 x9 t0 t1 σ hf _ _ _ hR hS hl
  unfold f_X6_goRun_246 at hf
  obtain ⟨z_246, hf⟩ := gd_some hf
  refine x_iast C hR hS 85 rfl z_246 (n := t1.toNatClampNeg) rfl dX6_goRun_246 (fun H locs hR hS => ?_)
  refine lv_aload_n hx hb dX6_goRun_247 rfl (lv_at hl 0 rfl) ?_
  refine x_get C hR inX6 75 (by decide) (cz5 rfl) rfl 8 (by decide) 5 rfl (.ref (G.2.1 82)) rfl dX6_goRun_248 ?_
  refine lv_iload hx hb dX6_goRun_251 (lv_at hl 5 rfl) ?_
  refine lv_aload_n hx hb dX6_goRun_253 rfl (lv_at hl 0 rfl) ?_
  refine x_get C hR inX6 75 (by decide) (cz5 rfl) rfl 10 (by decide) 4 rfl (.ref (G.2.1 84)) rfl dX6_goRun_254 ?_
  refine lv_iload hx hb dX6_goRun_257 (lv_at hl 5 rfl) ?_
  obtain ⟨z_259, hf⟩ := gd_some hf
  refine x_iald C hR 84 rfl z_259 (n := x6.toNatClampNeg) rfl (sA σ 84 x6.toNatClampNeg) rfl dX6_goRun_259 ?_
  refine lv_aload_n hx hb dX6_goRun_260 rfl (lv_at hl 0 rfl) ?_
  refine x_get C hR inX6 75 (by decide) (cz5 rfl) rfl 7 (by decide) 2 rfl (.ref (G.2.1 81)) rfl dX6_goRun_261 ?_
  refine lv_iload hx hb dX6_goRun_264 (lv_at hl 5 rfl) ?_
  obtain ⟨z_266, hf⟩ := gd_some hf
  refine x_iald C hR 81 rfl z_266 (n := x6.toNatClampNeg) rfl (sA σ 81 x6.toNatClampNeg) rfl dX6_goRun_266 ?_
  refine lv_icmp_le (tgt := 280) hx hb dX6_goRun_267 (by decide) (fun c_267 => ?_) (fun c_267 => ?_)
  · replace hf := (if_pos c_267).symm.trans hf
    refine lv_aload_n hx hb dX6_goRun_280 rfl (lv_at hl 0 rfl) ?_
    refine x_get C hR inX6 75 (by decide) (cz5 rfl) rfl 7 (by decide) 2 rfl (.ref (G.2.1 81)) rfl dX6_goRun_281 ?_
    refine lv_iload hx hb dX6_goRun_284 (lv_at hl 5 rfl) ?_
    obtain ⟨z_286, hf⟩ := gd_some hf
    refine x_iald C hR 81 rfl z_286 (n := x6.toNatClampNeg) rfl (sA σ 81 x6.toNatClampNeg) rfl dX6_goRun_286 ?_
    exact w_X6_goRun_287 C hrc6 x1 x2 x3 x4 x6 x8 x9 (sA σ 81 x6.toNatClampNeg) x6 _ hf _ _ _ hR hS (lv_sub hl [0, 1, 2, 3, 4, 5, 6, 7] rfl)
  · replace hf := (if_neg c_267).symm.trans hf
    refine lv_aload_n hx hb dX6_goRun_270 rfl (lv_at hl 0 rfl) ?_
    refine x_get C hR inX6 75 (by decide) (cz5 rfl) rfl 10 (by decide) 4 rfl (.ref (G.2.1 84)) rfl dX6_goRun_271 ?_
    refine lv_iload hx hb dX6_goRun_274 (lv_at hl 5 rfl) ?_
    obtain ⟨z_276, hf⟩ := gd_some hf
    refine x_iald C hR 84 rfl z_276 (n := x6.toNatClampNeg) rfl (sA σ 84 x6.toNatClampNeg) rfl dX6_goRun_276 ?_
    refine lv_goto (tgt := 287) hx hb dX6_goRun_277 (by decide) ?_
    exact w_X6_goRun_287 C hrc6 x1 x2 x3 x4 x6 x8 x9 (sA σ 84 x6.toNatClampNeg) x6 _ hf _ _ _ hR hS (lv_sub hl [0, 1, 2, 3, 4, 5, 6, 7] rfl)
set_option maxHeartbeats 4000000 in
set_option maxRecDepth 100000 in
theorem w_X6_goRun_228 {p : Program} {l : Launch} {e : Env} {s : State} {m : MethodId} {args : Array Value} {below : List Frame} {meth : Method} {c : Code} {G : GG} (C : Cx p s m args meth c cX6_goRun RX6 wsX6_goRun (some .int) 12 G) {res : Int32 × St} {rc6 : Int32 → Int32 → Int32 → Int32 → Int32 → Int32 → St → Option (Int32 × St)} (hrc6 : ∀ (x1 : Int32) (x2 : Int32) (x3 : Int32) (x4 : Int32) (x5 : Int32) (x6 : Int32) (σ : St), rc6 x1 x2 x3 x4 x5 x6 σ = some res → WC p l e 2 s m args below meth c G (QI G res) 12 6 [(0, .ref (G.2.1 75)), (1, .int x1), (2, .int x2), (3, .int x3), (4, .int x4), (5, .int x5), (6, .int x6)] [] σ) : ∀ (x1 : Int32) (x2 : Int32) (x3 : Int32) (x4 : Int32) (x6 : Int32) (x8 : Int32) (x9 : Int32) (t0 : Int32) (t1 : Int32) (t2 : Int32) (σ : St), f_X6_goRun_228 rc6 x1 x2 x3 x4 x6 x8 x9 t0 t1 t2 σ = some res → WC p l e 2 s m args below meth c G (QI G res) 12 228 [(0, .ref (G.2.1 75)), (1, .int x1), (2, .int x2), (3, .int x3), (4, .int x4), (6, .int x6), (8, .int x8), (9, .int x9)] [.int t0, .int t1, .int t2, .ref (G.2.1 84)] σ := by
  have hx := C.1
  have hb := C.2.1
  have inX6 : ∀ w ∈ u_ws RX6 TX6 22, w ∈ wsX6_goRun := fun w h => List.mem_cons_of_mem _ (List.mem_append_right _ h)
  intro x1 x2 x3 x4 x6 x8 x9 t0 t1 t2 σ hf _ _ _ hR hS hl
  unfold f_X6_goRun_228 at hf
  refine lv_iadd hx hb dX6_goRun_228 ?_
  obtain ⟨z_229, hf⟩ := gd_some hf
  refine x_iast C hR hS 84 rfl z_229 (n := t2.toNatClampNeg) rfl dX6_goRun_229 (fun H locs hR hS => ?_)
  refine lv_aload_n hx hb dX6_goRun_230 rfl (lv_at hl 0 rfl) ?_
  refine x_get C hR inX6 75 (by decide) (cz5 rfl) rfl 11 (by decide) 3 rfl (.ref (G.2.1 85)) rfl dX6_goRun_231 ?_
  refine lv_iload hx hb dX6_goRun_234 (lv_at hl 5 rfl) ?_
  refine lv_iload hx hb dX6_goRun_236 (lv_at hl 7 rfl) ?_
  refine lv_if_eq (tgt := 245) hx hb dX6_goRun_238 (by decide) (fun c_238 => ?_) (fun c_238 => ?_)
  · replace hf := (if_pos c_238).symm.trans hf
    refine lv_iconst (v := 1) hx hb dX6_goRun_245 (by decide) ?_
    exact w_X6_goRun_246 C hrc6 x1 x2 x3 x4 x6 x8 x9 1 x6 _ hf _ _ _ hR hS (lv_sub hl [0, 1, 2, 3, 4, 5, 6, 7] rfl)
  · replace hf := (if_neg c_238).symm.trans hf
    refine lv_iconst (v := 0) hx hb dX6_goRun_241 (by decide) ?_
    refine lv_goto (tgt := 246) hx hb dX6_goRun_242 (by decide) ?_
    exact w_X6_goRun_246 C hrc6 x1 x2 x3 x4 x6 x8 x9 0 x6 _ hf _ _ _ hR hS (lv_sub hl [0, 1, 2, 3, 4, 5, 6, 7] rfl)
set_option maxHeartbeats 4000000 in
set_option maxRecDepth 100000 in
theorem w_X6_goRun_202 {p : Program} {l : Launch} {e : Env} {s : State} {m : MethodId} {args : Array Value} {below : List Frame} {meth : Method} {c : Code} {G : GG} (C : Cx p s m args meth c cX6_goRun RX6 wsX6_goRun (some .int) 12 G) {res : Int32 × St} {rc6 : Int32 → Int32 → Int32 → Int32 → Int32 → Int32 → St → Option (Int32 × St)} (hrc6 : ∀ (x1 : Int32) (x2 : Int32) (x3 : Int32) (x4 : Int32) (x5 : Int32) (x6 : Int32) (σ : St), rc6 x1 x2 x3 x4 x5 x6 σ = some res → WC p l e 2 s m args below meth c G (QI G res) 12 6 [(0, .ref (G.2.1 75)), (1, .int x1), (2, .int x2), (3, .int x3), (4, .int x4), (5, .int x5), (6, .int x6)] [] σ) : ∀ (x1 : Int32) (x2 : Int32) (x3 : Int32) (x4 : Int32) (x6 : Int32) (x8 : Int32) (x9 : Int32) (x11 : Int32) (σ : St), f_X6_goRun_202 rc6 x1 x2 x3 x4 x6 x8 x9 x11 σ = some res → WC p l e 2 s m args below meth c G (QI G res) 12 202 [(0, .ref (G.2.1 75)), (1, .int x1), (2, .int x2), (3, .int x3), (4, .int x4), (6, .int x6), (8, .int x8), (9, .int x9), (11, .int x11)] [] σ := by
  have hx := C.1
  have hb := C.2.1
  have inX6 : ∀ w ∈ u_ws RX6 TX6 22, w ∈ wsX6_goRun := fun w h => List.mem_cons_of_mem _ (List.mem_append_right _ h)
  intro x1 x2 x3 x4 x6 x8 x9 x11 σ hf _ _ _ hR hS hl
  unfold f_X6_goRun_202 at hf
  refine lv_aload_n hx hb dX6_goRun_202 rfl (lv_at hl 0 rfl) ?_
  refine x_get C hR inX6 75 (by decide) (cz5 rfl) rfl 10 (by decide) 4 rfl (.ref (G.2.1 84)) rfl dX6_goRun_203 ?_
  refine lv_iload hx hb dX6_goRun_206 (lv_at hl 5 rfl) ?_
  refine lv_iload hx hb dX6_goRun_208 (lv_at hl 8 rfl) ?_
  refine lv_iload hx hb dX6_goRun_210 (lv_at hl 7 rfl) ?_
  refine lv_if_eq (tgt := 219) hx hb dX6_goRun_212 (by decide) (fun c_212 => ?_) (fun c_212 => ?_)
  · replace hf := (if_pos c_212).symm.trans hf
    refine lv_iload hx hb dX6_goRun_219 (lv_at hl 6 rfl) ?_
    refine lv_aload_n hx hb dX6_goRun_221 rfl (lv_at hl 0 rfl) ?_
    refine x_get C hR inX6 75 (by decide) (cz5 rfl) rfl 12 (by decide) 6 rfl (.int (sI σ 75 12)) rfl dX6_goRun_222 ?_
    obtain ⟨r225_, σ225_, hc_225, hf⟩ := bd_some hf
    refine x_csI C hl.1 hR hS (c_X6_readyIn l G x8 (sI σ 75 12) σ _ hc_225) gX6_goRun_X6_readyIn rfl hdS_X6_readyIn ⟨Nat.le_of_ble_eq_true rfl, Nat.le_of_ble_eq_true rfl⟩ rfl (As := [.int x8, .int (sI σ 75 12)]) (rest := [.int x11, .int x6, .ref (G.2.1 84)]) rfl (Nat.le_of_ble_eq_true rfl) ⟨Nat.le_of_ble_eq_true rfl, Nat.le_of_ble_eq_true rfl⟩ dX6_goRun_225 (fun r225 σ225 H locs hq_225 hR hS => ?_)
    obtain ⟨rfl, rfl⟩ := hq_225
    exact w_X6_goRun_228 C hrc6 x1 x2 x3 x4 x6 x8 x9 r225 x11 x6 _ hf _ _ _ hR hS (lv_sub hl [0, 1, 2, 3, 4, 5, 6, 7] rfl)
  · replace hf := (if_neg c_212).symm.trans hf
    refine lv_iconst (v := 0) hx hb dX6_goRun_215 (by decide) ?_
    refine lv_goto (tgt := 228) hx hb dX6_goRun_216 (by decide) ?_
    exact w_X6_goRun_228 C hrc6 x1 x2 x3 x4 x6 x8 x9 0 x11 x6 _ hf _ _ _ hR hS (lv_sub hl [0, 1, 2, 3, 4, 5, 6, 7] rfl)
set_option maxHeartbeats 4000000 in
set_option maxRecDepth 100000 in
theorem w_X6_goRun_182 {p : Program} {l : Launch} {e : Env} {s : State} {m : MethodId} {args : Array Value} {below : List Frame} {meth : Method} {c : Code} {G : GG} (C : Cx p s m args meth c cX6_goRun RX6 wsX6_goRun (some .int) 12 G) {res : Int32 × St} {rc6 : Int32 → Int32 → Int32 → Int32 → Int32 → Int32 → St → Option (Int32 × St)} (hrc6 : ∀ (x1 : Int32) (x2 : Int32) (x3 : Int32) (x4 : Int32) (x5 : Int32) (x6 : Int32) (σ : St), rc6 x1 x2 x3 x4 x5 x6 σ = some res → WC p l e 2 s m args below meth c G (QI G res) 12 6 [(0, .ref (G.2.1 75)), (1, .int x1), (2, .int x2), (3, .int x3), (4, .int x4), (5, .int x5), (6, .int x6)] [] σ) : ∀ (x1 : Int32) (x2 : Int32) (x3 : Int32) (x4 : Int32) (x6 : Int32) (x8 : Int32) (x9 : Int32) (t0 : Int32) (σ : St), f_X6_goRun_182 rc6 x1 x2 x3 x4 x6 x8 x9 t0 σ = some res → WC p l e 2 s m args below meth c G (QI G res) 12 182 [(0, .ref (G.2.1 75)), (1, .int x1), (2, .int x2), (3, .int x3), (4, .int x4), (6, .int x6), (8, .int x8), (9, .int x9)] [.int t0] σ := by
  have hx := C.1
  have hb := C.2.1
  have inX6 : ∀ w ∈ u_ws RX6 TX6 22, w ∈ wsX6_goRun := fun w h => List.mem_cons_of_mem _ (List.mem_append_right _ h)
  intro x1 x2 x3 x4 x6 x8 x9 t0 σ hf _ _ _ hR hS hl
  unfold f_X6_goRun_182 at hf
  refine lv_istore (lv' := [(11, .int t0), (0, .ref (G.2.1 75)), (1, .int x1), (2, .int x2), (3, .int x3), (4, .int x4), (6, .int x6), (8, .int x8), (9, .int x9)]) hx hb dX6_goRun_182 hl (by decide) rfl (fun ls hl => ?_)
  refine lv_iload hx hb dX6_goRun_184 (lv_at hl 0 rfl) ?_
  refine lv_aload_n hx hb dX6_goRun_186 rfl (lv_at hl 1 rfl) ?_
  refine lv_iload_n hx hb dX6_goRun_187 rfl (lv_at hl 2 rfl) ?_
  refine lv_iload hx hb dX6_goRun_188 (lv_at hl 6 rfl) ?_
  refine lv_iconst (v := 1) hx hb dX6_goRun_190 (by decide) ?_
  refine lv_isub hx hb dX6_goRun_191 ?_
  obtain ⟨r192_, σ192_, hc_192, hf⟩ := bd_some hf
  refine x_cvI C hl.1 hR hS (c_X6_roadFrom l G x1 (x6 - 1) σ _ hc_192) gX6_goRun_X6_roadFrom rfl hdV_X6_roadFrom ⟨Nat.le_of_ble_eq_true rfl, Nat.le_of_ble_eq_true rfl⟩ (by decide) (cz5 rfl) rfl rfl (As := [.int x1, .int (x6 - 1)]) (rest := [.int t0]) rfl (Nat.le_of_ble_eq_true rfl) ⟨Nat.le_of_ble_eq_true rfl, Nat.le_of_ble_eq_true rfl⟩ dX6_goRun_192 (fun r192 σ192 H locs hq_192 hR hS => ?_)
  obtain ⟨rfl, rfl⟩ := hq_192
  refine lv_iload_n hx hb dX6_goRun_195 rfl (lv_at hl 3 rfl) ?_
  obtain ⟨r196_, σ196_, hc_196, hf⟩ := bd_some hf
  refine x_csI C hl.1 hR hS (c_X6_walk l G r192 x2 σ192 _ hc_196) gX6_goRun_X6_walk rfl hdS_X6_walk ⟨Nat.le_of_ble_eq_true rfl, Nat.le_of_ble_eq_true rfl⟩ rfl (As := [.int r192, .int x2]) (rest := [.int t0]) rfl (Nat.le_of_ble_eq_true rfl) ⟨Nat.le_of_ble_eq_true rfl, Nat.le_of_ble_eq_true rfl⟩ dX6_goRun_196 (fun r196 σ196 H locs hq_196 hR hS => ?_)
  obtain ⟨rfl, rfl⟩ := hq_196
  refine lv_iadd hx hb dX6_goRun_199 ?_
  refine lv_istore (lv' := [(11, .int (t0 + r196)), (0, .ref (G.2.1 75)), (1, .int x1), (2, .int x2), (3, .int x3), (4, .int x4), (6, .int x6), (8, .int x8), (9, .int x9)]) hx hb dX6_goRun_200 hl (by decide) rfl (fun ls hl => ?_)
  exact w_X6_goRun_202 C hrc6 x1 x2 x3 x4 x6 x8 x9 (t0 + r196) _ hf _ _ _ hR hS (lv_sub hl [1, 2, 3, 4, 5, 6, 7, 8, 0] rfl)
set_option maxHeartbeats 4000000 in
set_option maxRecDepth 100000 in
theorem w_X6_goRun_180 {p : Program} {l : Launch} {e : Env} {s : State} {m : MethodId} {args : Array Value} {below : List Frame} {meth : Method} {c : Code} {G : GG} (C : Cx p s m args meth c cX6_goRun RX6 wsX6_goRun (some .int) 12 G) {res : Int32 × St} {rc6 : Int32 → Int32 → Int32 → Int32 → Int32 → Int32 → St → Option (Int32 × St)} (hrc6 : ∀ (x1 : Int32) (x2 : Int32) (x3 : Int32) (x4 : Int32) (x5 : Int32) (x6 : Int32) (σ : St), rc6 x1 x2 x3 x4 x5 x6 σ = some res → WC p l e 2 s m args below meth c G (QI G res) 12 6 [(0, .ref (G.2.1 75)), (1, .int x1), (2, .int x2), (3, .int x3), (4, .int x4), (5, .int x5), (6, .int x6)] [] σ) : ∀ (x1 : Int32) (x2 : Int32) (x3 : Int32) (x4 : Int32) (x6 : Int32) (x8 : Int32) (x9 : Int32) (x11 : Int32) (σ : St), f_X6_goRun_180 rc6 x1 x2 x3 x4 x6 x8 x9 x11 σ = some res → WC p l e 2 s m args below meth c G (QI G res) 12 180 [(0, .ref (G.2.1 75)), (1, .int x1), (2, .int x2), (3, .int x3), (4, .int x4), (6, .int x6), (8, .int x8), (9, .int x9), (11, .int x11)] [] σ := by
  have hx := C.1
  have hb := C.2.1
  have inX6 : ∀ w ∈ u_ws RX6 TX6 22, w ∈ wsX6_goRun := fun w h => List.mem_cons_of_mem _ (List.mem_append_right _ h)
  intro x1 x2 x3 x4 x6 x8 x9 x11 σ hf _ _ _ hR hS hl
  unfold f_X6_goRun_180 at hf
  refine lv_iload hx hb dX6_goRun_180 (lv_at hl 8 rfl) ?_
  exact w_X6_goRun_182 C hrc6 x1 x2 x3 x4 x6 x8 x9 x11 _ hf _ _ _ hR hS (lv_sub hl [0, 1, 2, 3, 4, 5, 6, 7] rfl)
set_option maxHeartbeats 4000000 in
set_option maxRecDepth 100000 in
theorem w_X6_goRun_123 {p : Program} {l : Launch} {e : Env} {s : State} {m : MethodId} {args : Array Value} {below : List Frame} {meth : Method} {c : Code} {G : GG} (C : Cx p s m args meth c cX6_goRun RX6 wsX6_goRun (some .int) 12 G) {res : Int32 × St} {rc6 : Int32 → Int32 → Int32 → Int32 → Int32 → Int32 → St → Option (Int32 × St)} (hrc6 : ∀ (x1 : Int32) (x2 : Int32) (x3 : Int32) (x4 : Int32) (x5 : Int32) (x6 : Int32) (σ : St), rc6 x1 x2 x3 x4 x5 x6 σ = some res → WC p l e 2 s m args below meth c G (QI G res) 12 6 [(0, .ref (G.2.1 75)), (1, .int x1), (2, .int x2), (3, .int x3), (4, .int x4), (5, .int x5), (6, .int x6)] [] σ) : ∀ (x1 : Int32) (x2 : Int32) (x3 : Int32) (x4 : Int32) (x6 : Int32) (x8 : Int32) (x9 : Int32) (t0 : Int32) (σ : St), f_X6_goRun_123 rc6 x1 x2 x3 x4 x6 x8 x9 t0 σ = some res → WC p l e 2 s m args below meth c G (QI G res) 12 123 [(0, .ref (G.2.1 75)), (1, .int x1), (2, .int x2), (3, .int x3), (4, .int x4), (6, .int x6), (8, .int x8), (9, .int x9)] [.int t0] σ := by
  have hx := C.1
  have hb := C.2.1
  have inX6 : ∀ w ∈ u_ws RX6 TX6 22, w ∈ wsX6_goRun := fun w h => List.mem_cons_of_mem _ (List.mem_append_right _ h)
  intro x1 x2 x3 x4 x6 x8 x9 t0 σ hf _ _ _ hR hS hl
  unfold f_X6_goRun_123 at hf
  refine lv_istore (lv' := [(10, .int t0), (0, .ref (G.2.1 75)), (1, .int x1), (2, .int x2), (3, .int x3), (4, .int x4), (6, .int x6), (8, .int x8), (9, .int x9)]) hx hb dX6_goRun_123 hl (by decide) rfl (fun ls hl => ?_)
  refine lv_iload_n hx hb dX6_goRun_125 rfl (lv_at hl 3 rfl) ?_
  refine lv_if_le (tgt := 331) hx hb dX6_goRun_126 (by decide) (fun c_126 => ?_) (fun c_126 => ?_)
  · replace hf := (if_pos c_126).symm.trans hf
    exact w_X6_goRun_331 C hrc6 x1 x2 x3 x4 x6 x8 t0 _ hf _ _ _ hR hS (lv_sub hl [1, 2, 3, 4, 5, 6, 7, 0] rfl)
  · replace hf := (if_neg c_126).symm.trans hf
    refine lv_iconst (v := 0) hx hb dX6_goRun_129 (by decide) ?_
    refine lv_istore (lv' := [(11, .int 0), (10, .int t0), (0, .ref (G.2.1 75)), (1, .int x1), (2, .int x2), (3, .int x3), (4, .int x4), (6, .int x6), (8, .int x8), (9, .int x9)]) hx hb dX6_goRun_130 hl (by decide) rfl (fun ls hl => ?_)
    refine lv_iload hx hb dX6_goRun_132 (lv_at hl 7 rfl) ?_
    refine lv_if_le (tgt := 202) hx hb dX6_goRun_134 (by decide) (fun c_134 => ?_) (fun c_134 => ?_)
    · replace hf := (if_pos c_134).symm.trans hf
      exact w_X6_goRun_202 C hrc6 x1 x2 x3 x4 x6 x8 x9 0 _ hf _ _ _ hR hS (lv_sub hl [2, 3, 4, 5, 6, 7, 8, 9, 0] rfl)
    · replace hf := (if_neg c_134).symm.trans hf
      refine lv_aload_n hx hb dX6_goRun_137 rfl (lv_at hl 2 rfl) ?_
      refine x_get C hR inX6 75 (by decide) (cz5 rfl) rfl 10 (by decide) 4 rfl (.ref (G.2.1 84)) rfl dX6_goRun_138 ?_
      refine lv_iload hx hb dX6_goRun_141 (lv_at hl 7 rfl) ?_
      refine lv_iconst (v := 1) hx hb dX6_goRun_143 (by decide) ?_
      refine lv_isub hx hb dX6_goRun_144 ?_
      obtain ⟨z_145, hf⟩ := gd_some hf
      refine x_iald C hR 84 rfl z_145 (n := (x6 - 1).toNatClampNeg) rfl (sA σ 84 ((x6 - 1).toNatClampNeg)) rfl dX6_goRun_145 ?_
      refine lv_istore (lv' := [(11, .int (sA σ 84 ((x6 - 1).toNatClampNeg))), (10, .int t0), (0, .ref (G.2.1 75)), (1, .int x1), (2, .int x2), (3, .int x3), (4, .int x4), (6, .int x6), (8, .int x8), (9, .int x9)]) hx hb dX6_goRun_146 hl (by decide) rfl (fun ls hl => ?_)
      refine lv_iload hx hb dX6_goRun_148 (lv_at hl 7 rfl) ?_
      refine lv_iload_n hx hb dX6_goRun_150 rfl (lv_at hl 5 rfl) ?_
      refine lv_icmp_lt (tgt := 180) hx hb dX6_goRun_151 (by decide) (fun c_151 => ?_) (fun c_151 => ?_)
      · replace hf := (if_pos c_151).symm.trans hf
        exact w_X6_goRun_180 C hrc6 x1 x2 x3 x4 x6 x8 x9 (sA σ 84 ((x6 - 1).toNatClampNeg)) _ hf _ _ _ hR hS (lv_sub hl [2, 3, 4, 5, 6, 7, 8, 9, 0] rfl)
      · replace hf := (if_neg c_151).symm.trans hf
        refine lv_aload_n hx hb dX6_goRun_154 rfl (lv_at hl 2 rfl) ?_
        refine x_get C hR inX6 75 (by decide) (cz5 rfl) rfl 7 (by decide) 2 rfl (.ref (G.2.1 81)) rfl dX6_goRun_155 ?_
        refine lv_iload hx hb dX6_goRun_158 (lv_at hl 7 rfl) ?_
        refine lv_iload_n hx hb dX6_goRun_160 rfl (lv_at hl 5 rfl) ?_
        refine lv_isub hx hb dX6_goRun_161 ?_
        obtain ⟨z_162, hf⟩ := gd_some hf
        refine x_iald C hR 81 rfl z_162 (n := (x6 - x3).toNatClampNeg) rfl (sA σ 81 ((x6 - x3).toNatClampNeg)) rfl dX6_goRun_162 ?_
        refine lv_iload hx hb dX6_goRun_163 (lv_at hl 0 rfl) ?_
        refine lv_icmp_le (tgt := 180) hx hb dX6_goRun_165 (by decide) (fun c_165 => ?_) (fun c_165 => ?_)
        · replace hf := (if_pos c_165).symm.trans hf
          exact w_X6_goRun_180 C hrc6 x1 x2 x3 x4 x6 x8 x9 (sA σ 84 ((x6 - 1).toNatClampNeg)) _ hf _ _ _ hR hS (lv_sub hl [2, 3, 4, 5, 6, 7, 8, 9, 0] rfl)
        · replace hf := (if_neg c_165).symm.trans hf
          refine lv_aload_n hx hb dX6_goRun_168 rfl (lv_at hl 2 rfl) ?_
          refine x_get C hR inX6 75 (by decide) (cz5 rfl) rfl 7 (by decide) 2 rfl (.ref (G.2.1 81)) rfl dX6_goRun_169 ?_
          refine lv_iload hx hb dX6_goRun_172 (lv_at hl 7 rfl) ?_
          refine lv_iload_n hx hb dX6_goRun_174 rfl (lv_at hl 5 rfl) ?_
          refine lv_isub hx hb dX6_goRun_175 ?_
          obtain ⟨z_176, hf⟩ := gd_some hf
          refine x_iald C hR 81 rfl z_176 (n := (x6 - x3).toNatClampNeg) rfl (sA σ 81 ((x6 - x3).toNatClampNeg)) rfl dX6_goRun_176 ?_
          refine lv_goto (tgt := 182) hx hb dX6_goRun_177 (by decide) ?_
          exact w_X6_goRun_182 C hrc6 x1 x2 x3 x4 x6 x8 x9 (sA σ 81 ((x6 - x3).toNatClampNeg)) _ hf _ _ _ hR hS (lv_sub hl [2, 3, 4, 5, 6, 7, 8, 9] rfl)
set_option maxHeartbeats 4000000 in
set_option maxRecDepth 100000 in
theorem w_X6_goRun_122 {p : Program} {l : Launch} {e : Env} {s : State} {m : MethodId} {args : Array Value} {below : List Frame} {meth : Method} {c : Code} {G : GG} (C : Cx p s m args meth c cX6_goRun RX6 wsX6_goRun (some .int) 12 G) {res : Int32 × St} {rc6 : Int32 → Int32 → Int32 → Int32 → Int32 → Int32 → St → Option (Int32 × St)} (hrc6 : ∀ (x1 : Int32) (x2 : Int32) (x3 : Int32) (x4 : Int32) (x5 : Int32) (x6 : Int32) (σ : St), rc6 x1 x2 x3 x4 x5 x6 σ = some res → WC p l e 2 s m args below meth c G (QI G res) 12 6 [(0, .ref (G.2.1 75)), (1, .int x1), (2, .int x2), (3, .int x3), (4, .int x4), (5, .int x5), (6, .int x6)] [] σ) : ∀ (x1 : Int32) (x2 : Int32) (x3 : Int32) (x4 : Int32) (x6 : Int32) (x8 : Int32) (x9 : Int32) (σ : St), f_X6_goRun_122 rc6 x1 x2 x3 x4 x6 x8 x9 σ = some res → WC p l e 2 s m args below meth c G (QI G res) 12 122 [(0, .ref (G.2.1 75)), (1, .int x1), (2, .int x2), (3, .int x3), (4, .int x4), (6, .int x6), (8, .int x8), (9, .int x9)] [] σ := by
  have hx := C.1
  have hb := C.2.1
  have inX6 : ∀ w ∈ u_ws RX6 TX6 22, w ∈ wsX6_goRun := fun w h => List.mem_cons_of_mem _ (List.mem_append_right _ h)
  intro x1 x2 x3 x4 x6 x8 x9 σ hf _ _ _ hR hS hl
  unfold f_X6_goRun_122 at hf
  refine lv_iconst (v := 0) hx hb dX6_goRun_122 (by decide) ?_
  exact w_X6_goRun_123 C hrc6 x1 x2 x3 x4 x6 x8 x9 0 _ hf _ _ _ hR hS (lv_sub hl [0, 1, 2, 3, 4, 5, 6, 7] rfl)
set_option maxHeartbeats 4000000 in
set_option maxRecDepth 100000 in
theorem w_X6_goRun_78 {p : Program} {l : Launch} {e : Env} {s : State} {m : MethodId} {args : Array Value} {below : List Frame} {meth : Method} {c : Code} {G : GG} (C : Cx p s m args meth c cX6_goRun RX6 wsX6_goRun (some .int) 12 G) {res : Int32 × St} {rc6 : Int32 → Int32 → Int32 → Int32 → Int32 → Int32 → St → Option (Int32 × St)} (hrc6 : ∀ (x1 : Int32) (x2 : Int32) (x3 : Int32) (x4 : Int32) (x5 : Int32) (x6 : Int32) (σ : St), rc6 x1 x2 x3 x4 x5 x6 σ = some res → WC p l e 2 s m args below meth c G (QI G res) 12 6 [(0, .ref (G.2.1 75)), (1, .int x1), (2, .int x2), (3, .int x3), (4, .int x4), (5, .int x5), (6, .int x6)] [] σ) : ∀ (x1 : Int32) (x2 : Int32) (x3 : Int32) (x4 : Int32) (x6 : Int32) (x8 : Int32) (x9 : Int32) (t0 : Int32) (t1 : Int32) (σ : St), f_X6_goRun_78 rc6 x1 x2 x3 x4 x6 x8 x9 t0 t1 σ = some res → WC p l e 2 s m args below meth c G (QI G res) 12 78 [(0, .ref (G.2.1 75)), (1, .int x1), (2, .int x2), (3, .int x3), (4, .int x4), (6, .int x6), (8, .int x8), (9, .int x9)] [.int t0, .int t1, .ref (G.2.1 81)] σ := by
  have hx := C.1
  have hb := C.2.1
  have inX6 : ∀ w ∈ u_ws RX6 TX6 22, w ∈ wsX6_goRun := fun w h => List.mem_cons_of_mem _ (List.mem_append_right _ h)
  intro x1 x2 x3 x4 x6 x8 x9 t0 t1 σ hf _ _ _ hR hS hl
  unfold f_X6_goRun_78 at hf
  obtain ⟨z_78, hf⟩ := gd_some hf
  refine x_iast C hR hS 81 rfl z_78 (n := t1.toNatClampNeg) rfl dX6_goRun_78 (fun H locs hR hS => ?_)
  refine lv_aload_n hx hb dX6_goRun_79 rfl (lv_at hl 0 rfl) ?_
  refine x_get C hR inX6 75 (by decide) (cz5 rfl) rfl 11 (by decide) 3 rfl (.ref (G.2.1 85)) rfl dX6_goRun_80 ?_
  refine lv_iload hx hb dX6_goRun_83 (lv_at hl 5 rfl) ?_
  refine lv_iconst (v := 0) hx hb dX6_goRun_85 (by decide) ?_
  obtain ⟨z_86, hf⟩ := gd_some hf
  refine x_iast C hR hS 85 rfl z_86 (n := x6.toNatClampNeg) rfl dX6_goRun_86 (fun H locs hR hS => ?_)
  refine lv_aload_n hx hb dX6_goRun_87 rfl (lv_at hl 0 rfl) ?_
  refine x_get C hR inX6 75 (by decide) (cz5 rfl) rfl 10 (by decide) 4 rfl (.ref (G.2.1 84)) rfl dX6_goRun_88 ?_
  refine lv_iload hx hb dX6_goRun_91 (lv_at hl 5 rfl) ?_
  refine lv_iconst (v := (-1)) hx hb dX6_goRun_93 (by decide) ?_
  obtain ⟨z_94, hf⟩ := gd_some hf
  refine x_iast C hR hS 84 rfl z_94 (n := x6.toNatClampNeg) rfl dX6_goRun_94 (fun H locs hR hS => ?_)
  refine lv_aload_n hx hb dX6_goRun_95 rfl (lv_at hl 0 rfl) ?_
  refine x_get C hR inX6 75 (by decide) (cz5 rfl) rfl 8 (by decide) 5 rfl (.ref (G.2.1 82)) rfl dX6_goRun_96 ?_
  refine lv_iload hx hb dX6_goRun_99 (lv_at hl 5 rfl) ?_
  refine lv_aload_n hx hb dX6_goRun_101 rfl (lv_at hl 0 rfl) ?_
  refine x_get C hR inX6 75 (by decide) (cz5 rfl) rfl 7 (by decide) 2 rfl (.ref (G.2.1 81)) rfl dX6_goRun_102 ?_
  refine lv_iload hx hb dX6_goRun_105 (lv_at hl 5 rfl) ?_
  obtain ⟨z_107, hf⟩ := gd_some hf
  refine x_iald C hR 81 rfl z_107 (n := x6.toNatClampNeg) rfl (sA (pA σ 81 t1.toNatClampNeg t0) 81 x6.toNatClampNeg) (by first | rfl | exact sA_self | (simp only [sA_pA, sA_pI, sA_pL]; simp)) dX6_goRun_107 ?_
  obtain ⟨z_108, hf⟩ := gd_some hf
  refine x_iast C hR hS 82 rfl z_108 (n := x6.toNatClampNeg) rfl dX6_goRun_108 (fun H locs hR hS => ?_)
  refine lv_iload_n hx hb dX6_goRun_109 rfl (lv_at hl 2 rfl) ?_
  refine lv_if_ne (tgt := 122) hx hb dX6_goRun_110 (by decide) (fun c_110 => ?_) (fun c_110 => ?_)
  · replace hf := (if_neg c_110).symm.trans hf
    exact w_X6_goRun_122 C hrc6 x1 x2 x3 x4 x6 x8 x9 _ hf _ _ _ hR hS (lv_sub hl [0, 1, 2, 3, 4, 5, 6, 7] rfl)
  · replace hf := (if_pos c_110).symm.trans hf
    refine lv_iload hx hb dX6_goRun_113 (lv_at hl 7 rfl) ?_
    refine lv_if_ne (tgt := 122) hx hb dX6_goRun_115 (by decide) (fun c_115 => ?_) (fun c_115 => ?_)
    · replace hf := (if_neg c_115).symm.trans hf
      exact w_X6_goRun_122 C hrc6 x1 x2 x3 x4 x6 x8 x9 _ hf _ _ _ hR hS (lv_sub hl [0, 1, 2, 3, 4, 5, 6, 7] rfl)
    · replace hf := (if_pos c_115).symm.trans hf
      refine lv_iconst (v := 1) hx hb dX6_goRun_118 (by decide) ?_
      refine lv_goto (tgt := 123) hx hb dX6_goRun_119 (by decide) ?_
      exact w_X6_goRun_123 C hrc6 x1 x2 x3 x4 x6 x8 x9 1 _ hf _ _ _ hR hS (lv_sub hl [0, 1, 2, 3, 4, 5, 6, 7] rfl)
set_option maxHeartbeats 4000000 in
set_option maxRecDepth 100000 in
theorem w_X6_goRun_49 {p : Program} {l : Launch} {e : Env} {s : State} {m : MethodId} {args : Array Value} {below : List Frame} {meth : Method} {c : Code} {G : GG} (C : Cx p s m args meth c cX6_goRun RX6 wsX6_goRun (some .int) 12 G) {res : Int32 × St} {rc6 : Int32 → Int32 → Int32 → Int32 → Int32 → Int32 → St → Option (Int32 × St)} (hrc6 : ∀ (x1 : Int32) (x2 : Int32) (x3 : Int32) (x4 : Int32) (x5 : Int32) (x6 : Int32) (σ : St), rc6 x1 x2 x3 x4 x5 x6 σ = some res → WC p l e 2 s m args below meth c G (QI G res) 12 6 [(0, .ref (G.2.1 75)), (1, .int x1), (2, .int x2), (3, .int x3), (4, .int x4), (5, .int x5), (6, .int x6)] [] σ) : ∀ (x1 : Int32) (x2 : Int32) (x3 : Int32) (x4 : Int32) (x5 : Int32) (x6 : Int32) (x8 : Int32) (t0 : Int32) (σ : St), f_X6_goRun_49 rc6 x1 x2 x3 x4 x5 x6 x8 t0 σ = some res → WC p l e 2 s m args below meth c G (QI G res) 12 49 [(0, .ref (G.2.1 75)), (1, .int x1), (2, .int x2), (3, .int x3), (4, .int x4), (5, .int x5), (6, .int x6), (8, .int x8)] [.int t0] σ := by
  have hx := C.1
  have hb := C.2.1
  have inX6 : ∀ w ∈ u_ws RX6 TX6 22, w ∈ wsX6_goRun := fun w h => List.mem_cons_of_mem _ (List.mem_append_right _ h)
  intro x1 x2 x3 x4 x5 x6 x8 t0 σ hf _ _ _ hR hS hl
  unfold f_X6_goRun_49 at hf
  refine lv_istore (lv' := [(9, .int t0), (0, .ref (G.2.1 75)), (1, .int x1), (2, .int x2), (3, .int x3), (4, .int x4), (5, .int x5), (6, .int x6), (8, .int x8)]) hx hb dX6_goRun_49 hl (by decide) rfl (fun ls hl => ?_)
  refine lv_aload_n hx hb dX6_goRun_51 rfl (lv_at hl 1 rfl) ?_
  refine x_get C hR inX6 75 (by decide) (cz5 rfl) rfl 7 (by decide) 2 rfl (.ref (G.2.1 81)) rfl dX6_goRun_52 ?_
  refine lv_iload hx hb dX6_goRun_55 (lv_at hl 7 rfl) ?_
  refine lv_iload hx hb dX6_goRun_57 (lv_at hl 7 rfl) ?_
  refine lv_if_ne (tgt := 66) hx hb dX6_goRun_59 (by decide) (fun c_59 => ?_) (fun c_59 => ?_)
  · replace hf := (if_neg c_59).symm.trans hf
    refine lv_iload hx hb dX6_goRun_66 (lv_at hl 6 rfl) ?_
    refine lv_aload_n hx hb dX6_goRun_68 rfl (lv_at hl 1 rfl) ?_
    refine lv_iload_n hx hb dX6_goRun_69 rfl (lv_at hl 2 rfl) ?_
    refine lv_iload hx hb dX6_goRun_70 (lv_at hl 7 rfl) ?_
    refine lv_iconst (v := 1) hx hb dX6_goRun_72 (by decide) ?_
    refine lv_isub hx hb dX6_goRun_73 ?_
    obtain ⟨r74_, σ74_, hc_74, hf⟩ := bd_some hf
    refine x_cvI C hl.1 hR hS (c_X6_roadFrom l G x1 (x6 - 1) σ _ hc_74) gX6_goRun_X6_roadFrom rfl hdV_X6_roadFrom ⟨Nat.le_of_ble_eq_true rfl, Nat.le_of_ble_eq_true rfl⟩ (by decide) (cz5 rfl) rfl rfl (As := [.int x1, .int (x6 - 1)]) (rest := [.int x5, .int x6, .ref (G.2.1 81)]) rfl (Nat.le_of_ble_eq_true rfl) ⟨Nat.le_of_ble_eq_true rfl, Nat.le_of_ble_eq_true rfl⟩ dX6_goRun_74 (fun r74 σ74 H locs hq_74 hR hS => ?_)
    obtain ⟨rfl, rfl⟩ := hq_74
    refine lv_iadd hx hb dX6_goRun_77 ?_
    exact w_X6_goRun_78 C hrc6 x1 x2 x3 x4 x6 x8 t0 (x5 + r74) x6 _ hf _ _ _ hR hS (lv_sub hl [1, 2, 3, 4, 5, 7, 8, 0] rfl)
  · replace hf := (if_pos c_59).symm.trans hf
    refine lv_iconst (v := 0) hx hb dX6_goRun_62 (by decide) ?_
    refine lv_goto (tgt := 78) hx hb dX6_goRun_63 (by decide) ?_
    exact w_X6_goRun_78 C hrc6 x1 x2 x3 x4 x6 x8 t0 0 x6 _ hf _ _ _ hR hS (lv_sub hl [1, 2, 3, 4, 5, 7, 8, 0] rfl)
set_option maxHeartbeats 4000000 in
set_option maxRecDepth 100000 in
theorem w_X6_goRun_6 {p : Program} {l : Launch} {e : Env} {s : State} {m : MethodId} {args : Array Value} {below : List Frame} {meth : Method} {c : Code} {G : GG} (C : Cx p s m args meth c cX6_goRun RX6 wsX6_goRun (some .int) 12 G) {res : Int32 × St} : ∀ (n : Nat) (x1 : Int32) (x2 : Int32) (x3 : Int32) (x4 : Int32) (x5 : Int32) (x6 : Int32) (σ : St), f_X6_goRun_6 n x1 x2 x3 x4 x5 x6 σ = some res → WC p l e 2 s m args below meth c G (QI G res) 12 6 [(0, .ref (G.2.1 75)), (1, .int x1), (2, .int x2), (3, .int x3), (4, .int x4), (5, .int x5), (6, .int x6)] [] σ := by
  have hx := C.1
  have hb := C.2.1
  have inX6 : ∀ w ∈ u_ws RX6 TX6 22, w ∈ wsX6_goRun := fun w h => List.mem_cons_of_mem _ (List.mem_append_right _ h)
  intro n
  induction n with
  | zero => intro x1 x2 x3 x4 x5 x6 σ hf; cases hf
  | succ n hrc6 =>
    intro x1 x2 x3 x4 x5 x6 σ hf _ _ _ hR hS hl
    unfold f_X6_goRun_6 at hf
    refine lv_iload hx hb dX6_goRun_6 (lv_at hl 6 rfl) ?_
    refine lv_aload_n hx hb dX6_goRun_8 rfl (lv_at hl 0 rfl) ?_
    obtain ⟨r9_, σ9_, hc_9, hf⟩ := bd_some hf
    refine x_cvI C hl.1 hR hS (c_X6_locks l G σ _ hc_9) gX6_goRun_X6_locks rfl hdV_X6_locks ⟨Nat.le_of_ble_eq_true rfl, Nat.le_of_ble_eq_true rfl⟩ (by decide) (cz5 rfl) rfl rfl (As := []) (rest := [.int x6]) rfl (Nat.le_of_ble_eq_true rfl) ⟨Nat.le_of_ble_eq_true rfl, Nat.le_of_ble_eq_true rfl⟩ dX6_goRun_9 (fun r9 σ9 H locs hq_9 hR hS => ?_)
    obtain ⟨rfl, rfl⟩ := hq_9
    refine lv_icmp_ge (tgt := 413) hx hb dX6_goRun_12 (by decide) (fun c_12 => ?_) (fun c_12 => ?_)
    · replace hf := (if_pos c_12).symm.trans hf
      refine lv_iload hx hb dX6_goRun_413 (lv_at hl 5 rfl) ?_
      obtain rfl := Option.some.inj hf
      exact x_iret C hR hS dX6_goRun_415 ⟨rfl, rfl⟩
    · replace hf := (if_neg c_12).symm.trans hf
      refine lv_aload_n hx hb dX6_goRun_15 rfl (lv_at hl 0 rfl) ?_
      refine lv_iload_n hx hb dX6_goRun_16 rfl (lv_at hl 1 rfl) ?_
      refine lv_iload hx hb dX6_goRun_17 (lv_at hl 6 rfl) ?_
      obtain ⟨r19_, σ19_, hc_19, hf⟩ := bd_some hf
      refine x_cvI C hl.1 hR hS (c_X6_lockAt l G x1 x6 σ9 _ hc_19) gX6_goRun_X6_lockAt rfl hdV_X6_lockAt ⟨Nat.le_of_ble_eq_true rfl, Nat.le_of_ble_eq_true rfl⟩ (by decide) (cz5 rfl) rfl rfl (As := [.int x1, .int x6]) (rest := []) rfl (Nat.le_of_ble_eq_true rfl) ⟨Nat.le_of_ble_eq_true rfl, Nat.le_of_ble_eq_true rfl⟩ dX6_goRun_19 (fun r19 σ19 H locs hq_19 hR hS => ?_)
      obtain ⟨rfl, rfl⟩ := hq_19
      refine lv_istore (lv' := [(7, .int r19), (0, .ref (G.2.1 75)), (1, .int x1), (2, .int x2), (3, .int x3), (4, .int x4), (5, .int x5), (6, .int x6)]) hx hb dX6_goRun_22 hl (by decide) rfl (fun ls hl => ?_)
      refine lv_aload_n hx hb dX6_goRun_24 rfl (lv_at hl 1 rfl) ?_
      refine lv_iload hx hb dX6_goRun_25 (lv_at hl 0 rfl) ?_
      refine lv_iconst (v := 0) hx hb dX6_goRun_27 (by decide) ?_
      obtain ⟨r28_, σ28_, hc_28, hf⟩ := bd_some hf
      refine x_cvI C hl.1 hR hS (c_X6_get l G r19 0 σ19 _ hc_28) gX6_goRun_X6_get rfl hdV_X6_get ⟨Nat.le_of_ble_eq_true rfl, Nat.le_of_ble_eq_true rfl⟩ (by decide) (cz5 rfl) rfl rfl (As := [.int r19, .int 0]) (rest := []) rfl (Nat.le_of_ble_eq_true rfl) ⟨Nat.le_of_ble_eq_true rfl, Nat.le_of_ble_eq_true rfl⟩ dX6_goRun_28 (fun r28 σ28 H locs hq_28 hR hS => ?_)
      obtain ⟨rfl, rfl⟩ := hq_28
      refine lv_istore (lv' := [(8, .int r28), (7, .int r19), (0, .ref (G.2.1 75)), (1, .int x1), (2, .int x2), (3, .int x3), (4, .int x4), (5, .int x5), (6, .int x6)]) hx hb dX6_goRun_31 hl (by decide) rfl (fun ls hl => ?_)
      refine lv_aload_n hx hb dX6_goRun_33 rfl (lv_at hl 2 rfl) ?_
      refine x_get C hR inX6 75 (by decide) (cz5 rfl) rfl 6 (by decide) 1 rfl (.ref (G.2.1 80)) rfl dX6_goRun_34 ?_
      refine lv_iload hx hb dX6_goRun_37 (lv_at hl 1 rfl) ?_
      obtain ⟨z_39, hf⟩ := gd_some hf
      refine x_iald C hR 80 rfl z_39 (n := r19.toNatClampNeg) rfl (sA σ28 80 r19.toNatClampNeg) rfl dX6_goRun_39 ?_
      refine lv_iload_n hx hb dX6_goRun_40 rfl (lv_at hl 3 rfl) ?_
      refine lv_icmp_ne (tgt := 48) hx hb dX6_goRun_41 (by decide) (fun c_41 => ?_) (fun c_41 => ?_)
      · replace hf := (if_neg c_41).symm.trans hf
        refine lv_iconst (v := 0) hx hb dX6_goRun_48 (by decide) ?_
        exact w_X6_goRun_49 C hrc6 x1 x2 x3 x4 x5 x6 r28 0 _ hf _ _ _ hR hS (lv_sub hl [2, 3, 4, 5, 6, 7, 8, 0] rfl)
      · replace hf := (if_pos c_41).symm.trans hf
        refine lv_iconst (v := 1) hx hb dX6_goRun_44 (by decide) ?_
        refine lv_goto (tgt := 49) hx hb dX6_goRun_45 (by decide) ?_
        exact w_X6_goRun_49 C hrc6 x1 x2 x3 x4 x5 x6 r28 1 _ hf _ _ _ hR hS (lv_sub hl [2, 3, 4, 5, 6, 7, 8, 0] rfl)
set_option maxHeartbeats 4000000 in
set_option maxRecDepth 100000 in
theorem c_X6_goRun (l : Launch) (G : GG) (x1 : Int32) (x2 : Int32) (x3 : Int32) (x4 : Int32) (σ : St) (res : Int32 × St) (hf : f_X6_goRun x1 x2 x3 x4 σ = some res) : CI l yX6_goRun wsX6_goRun 2 [.ref (G.2.1 75), .int x1, .int x2, .int x3, .int x4] G σ (fun r u => r = res.1 ∧ u = res.2) := by
  refine x_ent (ret := (some .int)) cX6_goRun 12 (by decide) rfl (Nat.le_of_ble_eq_true rfl) ?_
  intro p e s m below meth c ls C hR hS hl
  have C : Cx p s m [.ref (G.2.1 75), .int x1, .int x2, .int x3, .int x4].toArray meth c cX6_goRun RX6 wsX6_goRun (some .int) 12 G := C
  have hx := C.1
  have hb := C.2.1
  have hl : lv_has ls 12 [(0, .ref (G.2.1 75)), (1, .int x1), (2, .int x2), (3, .int x3), (4, .int x4)] := hl
  have inX6 : ∀ w ∈ u_ws RX6 TX6 22, w ∈ wsX6_goRun := fun w h => List.mem_cons_of_mem _ (List.mem_append_right _ h)
  unfold f_X6_goRun at hf
  refine lv_iconst (v := 0) hx hb dX6_goRun_0 (by decide) ?_
  refine lv_istore (lv' := [(5, .int 0), (0, .ref (G.2.1 75)), (1, .int x1), (2, .int x2), (3, .int x3), (4, .int x4)]) hx hb dX6_goRun_1 hl (by decide) rfl (fun ls hl => ?_)
  refine lv_iconst (v := 0) hx hb dX6_goRun_3 (by decide) ?_
  refine lv_istore (lv' := [(6, .int 0), (5, .int 0), (0, .ref (G.2.1 75)), (1, .int x1), (2, .int x2), (3, .int x3), (4, .int x4)]) hx hb dX6_goRun_4 hl (by decide) rfl (fun ls hl => ?_)
  exact w_X6_goRun_6 C  FU x1 x2 x3 x4 0 0 _ hf _ _ _ hR hS (lv_sub hl [2, 3, 4, 5, 6, 1, 0] rfl)
theorem hdV_X6_waterOf : yX6_waterOf.cls = RX6 ∧ yX6_waterOf.cls ≠ "java/lang/invoke/MethodHandle" ∧ yX6_waterOf.cls ≠ "java/lang/invoke/VarHandle" ∧ (parseMethodDescriptor yX6_waterOf.desc).map (fun d => d.parameters.length) = some 0 := by decide +kernel
def f_X6_waterOf_7 : Nat → Int32 → Int32 → St → Option (Int32 × St)
  | 0, _, _, _ => none
  | n + 1, x1, x2, σ => bd (f_X6_locks σ) (fun r9 σ9 => (if r9 ≤ x2 then some (x1, σ9) else gd (x2 < 0 ∨ 8 ≤ x2.toNatClampNeg) ((f_X6_waterOf_7 n) (x1 + (sA σ9 85 x2.toNatClampNeg)) (x2 + 1) σ9)))
def f_X6_waterOf (σ : St) : Option (Int32 × St) :=
  bd (f_X6_locks σ) (fun r1 σ1 => f_X6_waterOf_7 FU r1 0 σ1)
set_option maxHeartbeats 4000000 in
set_option maxRecDepth 100000 in
theorem w_X6_waterOf_7 {p : Program} {l : Launch} {e : Env} {s : State} {m : MethodId} {args : Array Value} {below : List Frame} {meth : Method} {c : Code} {G : GG} (C : Cx p s m args meth c cX6_waterOf RX6 wsX6_waterOf (some .int) 3 G) {res : Int32 × St} : ∀ (n : Nat) (x1 : Int32) (x2 : Int32) (σ : St), f_X6_waterOf_7 n x1 x2 σ = some res → WC p l e 1 s m args below meth c G (QI G res) 3 7 [(0, .ref (G.2.1 75)), (1, .int x1), (2, .int x2)] [] σ := by
  have hx := C.1
  have hb := C.2.1
  have inX6 : ∀ w ∈ u_ws RX6 TX6 22, w ∈ wsX6_waterOf := fun w h => List.mem_cons_of_mem _ (List.mem_append_right _ h)
  intro n
  induction n with
  | zero => intro x1 x2 σ hf; cases hf
  | succ n hrc7 =>
    intro x1 x2 σ hf _ _ _ hR hS hl
    unfold f_X6_waterOf_7 at hf
    refine lv_iload_n hx hb dX6_waterOf_7 rfl (lv_at hl 2 rfl) ?_
    refine lv_aload_n hx hb dX6_waterOf_8 rfl (lv_at hl 0 rfl) ?_
    obtain ⟨r9_, σ9_, hc_9, hf⟩ := bd_some hf
    refine x_cvI C hl.1 hR hS (c_X6_locks l G σ _ hc_9) gX6_waterOf_X6_locks rfl hdV_X6_locks ⟨Nat.le_of_ble_eq_true rfl, Nat.le_of_ble_eq_true rfl⟩ (by decide) (cz5 rfl) rfl rfl (As := []) (rest := [.int x2]) rfl (Nat.le_of_ble_eq_true rfl) ⟨Nat.le_of_ble_eq_true rfl, Nat.le_of_ble_eq_true rfl⟩ dX6_waterOf_9 (fun r9 σ9 H locs hq_9 hR hS => ?_)
    obtain ⟨rfl, rfl⟩ := hq_9
    refine lv_icmp_ge (tgt := 30) hx hb dX6_waterOf_12 (by decide) (fun c_12 => ?_) (fun c_12 => ?_)
    · replace hf := (if_pos c_12).symm.trans hf
      refine lv_iload_n hx hb dX6_waterOf_30 rfl (lv_at hl 1 rfl) ?_
      obtain rfl := Option.some.inj hf
      exact x_iret C hR hS dX6_waterOf_31 ⟨rfl, rfl⟩
    · replace hf := (if_neg c_12).symm.trans hf
      refine lv_iload_n hx hb dX6_waterOf_15 rfl (lv_at hl 1 rfl) ?_
      refine lv_aload_n hx hb dX6_waterOf_16 rfl (lv_at hl 0 rfl) ?_
      refine x_get C hR inX6 75 (by decide) (cz5 rfl) rfl 11 (by decide) 1 rfl (.ref (G.2.1 85)) rfl dX6_waterOf_17 ?_
      refine lv_iload_n hx hb dX6_waterOf_20 rfl (lv_at hl 2 rfl) ?_
      obtain ⟨z_21, hf⟩ := gd_some hf
      refine x_iald C hR 85 rfl z_21 (n := x2.toNatClampNeg) rfl (sA σ9 85 x2.toNatClampNeg) rfl dX6_waterOf_21 ?_
      refine lv_iadd hx hb dX6_waterOf_22 ?_
      refine lv_istore_n (lv' := [(1, .int (x1 + (sA σ9 85 x2.toNatClampNeg))), (0, .ref (G.2.1 75)), (2, .int x2)]) hx hb dX6_waterOf_23 rfl hl (by decide) rfl (fun ls hl => ?_)
      refine lv_iinc (v := x2 + 1) (lv' := [(2, .int (x2 + 1)), (1, .int (x1 + (sA σ9 85 x2.toNatClampNeg))), (0, .ref (G.2.1 75))]) hx hb dX6_waterOf_24 hl (k := 2) rfl rfl (by decide) rfl (fun ls hl => ?_)
      refine lv_goto (tgt := 7) hx hb dX6_waterOf_27 (by decide) ?_
      exact hrc7 (x1 + (sA σ9 85 x2.toNatClampNeg)) (x2 + 1) _ hf _ _ _ hR hS (lv_sub hl [2, 1, 0] rfl)
set_option maxHeartbeats 4000000 in
set_option maxRecDepth 100000 in
theorem c_X6_waterOf (l : Launch) (G : GG) (σ : St) (res : Int32 × St) (hf : f_X6_waterOf σ = some res) : CI l yX6_waterOf wsX6_waterOf 1 [.ref (G.2.1 75)] G σ (fun r u => r = res.1 ∧ u = res.2) := by
  refine x_ent (ret := (some .int)) cX6_waterOf 3 (by decide) rfl (Nat.le_of_ble_eq_true rfl) ?_
  intro p e s m below meth c ls C hR hS hl
  have C : Cx p s m [.ref (G.2.1 75)].toArray meth c cX6_waterOf RX6 wsX6_waterOf (some .int) 3 G := C
  have hx := C.1
  have hb := C.2.1
  have hl : lv_has ls 3 [(0, .ref (G.2.1 75))] := hl
  have inX6 : ∀ w ∈ u_ws RX6 TX6 22, w ∈ wsX6_waterOf := fun w h => List.mem_cons_of_mem _ (List.mem_append_right _ h)
  unfold f_X6_waterOf at hf
  refine lv_aload_n hx hb dX6_waterOf_0 rfl (lv_at hl 0 rfl) ?_
  obtain ⟨r1_, σ1_, hc_1, hf⟩ := bd_some hf
  refine x_cvI C hl.1 hR hS (c_X6_locks l G σ _ hc_1) gX6_waterOf_X6_locks rfl hdV_X6_locks ⟨Nat.le_of_ble_eq_true rfl, Nat.le_of_ble_eq_true rfl⟩ (by decide) (cz5 rfl) rfl rfl (As := []) (rest := []) rfl (Nat.le_of_ble_eq_true rfl) ⟨Nat.le_of_ble_eq_true rfl, Nat.le_of_ble_eq_true rfl⟩ dX6_waterOf_1 (fun r1 σ1 H locs hq_1 hR hS => ?_)
  obtain ⟨rfl, rfl⟩ := hq_1
  refine lv_istore_n (lv' := [(1, .int r1), (0, .ref (G.2.1 75))]) hx hb dX6_waterOf_4 rfl hl (by decide) rfl (fun ls hl => ?_)
  refine lv_iconst (v := 0) hx hb dX6_waterOf_5 (by decide) ?_
  refine lv_istore_n (lv' := [(2, .int 0), (1, .int r1), (0, .ref (G.2.1 75))]) hx hb dX6_waterOf_6 rfl hl (by decide) rfl (fun ls hl => ?_)
  exact w_X6_waterOf_7 C  FU r1 0 _ hf _ _ _ hR hS (lv_sub hl [2, 1, 0] rfl)
theorem hdS_X6_isDown : yX6_isDown.cls ≠ "java/lang/invoke/MethodHandle" ∧ yX6_isDown.cls ≠ "java/lang/invoke/VarHandle" ∧ (parseMethodDescriptor yX6_isDown.desc).map (fun d => d.parameters.length) = some 1 := by decide +kernel
def f_X6_isDown (x0 : Int32) (σ : St) : Option (Int32 × St) :=
  bd (f_X6_in x0.toInt64 0 1 σ) (fun r4 σ4 => gb r4 (some (r4, σ4)))
set_option maxHeartbeats 4000000 in
set_option maxRecDepth 100000 in
theorem c_X6_isDown (l : Launch) (G : GG) (x0 : Int32) (σ : St) (res : Int32 × St) (hf : f_X6_isDown x0 σ = some res) : CI l yX6_isDown wsX6_isDown 1 [.int x0] G σ (fun r u => r = res.1 ∧ u = res.2) := by
  refine x_ent (ret := (some .boolean)) cX6_isDown 1 (by decide) rfl (Nat.le_of_ble_eq_true rfl) ?_
  intro p e s m below meth c ls C hR hS hl
  have C : Cx p s m [.int x0].toArray meth c cX6_isDown RX6 wsX6_isDown (some .boolean) 1 G := C
  have hx := C.1
  have hb := C.2.1
  have hl : lv_has ls 1 [(0, .int x0)] := hl
  unfold f_X6_isDown at hf
  refine lv_iload_n hx hb dX6_isDown_0 rfl (lv_at hl 0 rfl) ?_
  refine lv_i2l (v := x0.toInt64) hx hb dX6_isDown_1 rfl ?_
  refine lv_lconst (v := 0) hx hb dX6_isDown_2 (by decide) ?_
  refine lv_lconst (v := 1) hx hb dX6_isDown_3 (by decide) ?_
  obtain ⟨r4_, σ4_, hc_4, hf⟩ := bd_some hf
  refine x_csI C hl.1 hR hS (c_X6_in l G x0.toInt64 0 1 σ _ hc_4) gX6_isDown_X6_in rfl hdS_X6_in ⟨Nat.le_of_ble_eq_true rfl, Nat.le_of_ble_eq_true rfl⟩ rfl (As := [.long x0.toInt64, .long 0, .long 1]) (rest := []) rfl (Nat.le_of_ble_eq_true rfl) ⟨Nat.le_of_ble_eq_true rfl, Nat.le_of_ble_eq_true rfl⟩ dX6_isDown_4 (fun r4 σ4 H locs hq_4 hR hS => ?_)
  obtain ⟨rfl, rfl⟩ := hq_4
  obtain ⟨z_7, hf⟩ := gb_some hf
  obtain rfl := Option.some.inj hf
  exact x_zret C hR hS dX6_isDown_7 z_7 ⟨rfl, rfl⟩
theorem hdS_X6_isRun : yX6_isRun.cls ≠ "java/lang/invoke/MethodHandle" ∧ yX6_isRun.cls ≠ "java/lang/invoke/VarHandle" ∧ (parseMethodDescriptor yX6_isRun.desc).map (fun d => d.parameters.length) = some 3 := by decide +kernel
def f_X6_isRun (x0 : Int32) (x1 : Int32) (x2 : Int32) (σ : St) : Option (Int32 × St) :=
  bd (f_X6_isDown x0 σ) (fun r1 σ1 => (if r1 = 0 then some (0, σ1) else bd (f_X6_in x1.toInt64 0 2 σ1) (fun r13 σ13 => (if r13 = 0 then some (0, σ13) else bd (f_X6_in x2.toInt64 1 9 σ13) (fun r25 σ25 => (if r25 = 0 then some (0, σ25) else some (1, σ25)))))))
set_option maxHeartbeats 4000000 in
set_option maxRecDepth 100000 in
theorem c_X6_isRun (l : Launch) (G : GG) (x0 : Int32) (x1 : Int32) (x2 : Int32) (σ : St) (res : Int32 × St) (hf : f_X6_isRun x0 x1 x2 σ = some res) : CI l yX6_isRun wsX6_isRun 2 [.int x0, .int x1, .int x2] G σ (fun r u => r = res.1 ∧ u = res.2) := by
  refine x_ent (ret := (some .boolean)) cX6_isRun 3 (by decide) rfl (Nat.le_of_ble_eq_true rfl) ?_
  intro p e s m below meth c ls C hR hS hl
  have C : Cx p s m [.int x0, .int x1, .int x2].toArray meth c cX6_isRun RX6 wsX6_isRun (some .boolean) 3 G := C
  have hx := C.1
  have hb := C.2.1
  have hl : lv_has ls 3 [(0, .int x0), (1, .int x1), (2, .int x2)] := hl
  unfold f_X6_isRun at hf
  refine lv_iload_n hx hb dX6_isRun_0 rfl (lv_at hl 0 rfl) ?_
  obtain ⟨r1_, σ1_, hc_1, hf⟩ := bd_some hf
  refine x_csI C hl.1 hR hS (c_X6_isDown l G x0 σ _ hc_1) gX6_isRun_X6_isDown rfl hdS_X6_isDown ⟨Nat.le_of_ble_eq_true rfl, Nat.le_of_ble_eq_true rfl⟩ rfl (As := [.int x0]) (rest := []) rfl (Nat.le_of_ble_eq_true rfl) ⟨Nat.le_of_ble_eq_true rfl, Nat.le_of_ble_eq_true rfl⟩ dX6_isRun_1 (fun r1 σ1 H locs hq_1 hR hS => ?_)
  obtain ⟨rfl, rfl⟩ := hq_1
  refine lv_if_eq (tgt := 35) hx hb dX6_isRun_4 (by decide) (fun c_4 => ?_) (fun c_4 => ?_)
  · replace hf := (if_pos c_4).symm.trans hf
    refine lv_iconst (v := 0) hx hb dX6_isRun_35 (by decide) ?_
    obtain rfl := Option.some.inj hf
    exact x_zret C hR hS dX6_isRun_36 (by first | rfl | decide | (simp only []; split <;> rfl)) ⟨rfl, rfl⟩
  · replace hf := (if_neg c_4).symm.trans hf
    refine lv_iload_n hx hb dX6_isRun_7 rfl (lv_at hl 1 rfl) ?_
    refine lv_i2l (v := x1.toInt64) hx hb dX6_isRun_8 rfl ?_
    refine lv_lconst (v := 0) hx hb dX6_isRun_9 (by decide) ?_
    refine lv_ldc2 (v := 2) hx hb C.2.2.2.2.1 (C.2.2.2.2.2.1 _ (List.mem_of_getElem? (i := 1) rfl)) dX6_isRun_10 ?_
    obtain ⟨r13_, σ13_, hc_13, hf⟩ := bd_some hf
    refine x_csI C hl.1 hR hS (c_X6_in l G x1.toInt64 0 2 σ1 _ hc_13) gX6_isRun_X6_in rfl hdS_X6_in ⟨Nat.le_of_ble_eq_true rfl, Nat.le_of_ble_eq_true rfl⟩ rfl (As := [.long x1.toInt64, .long 0, .long 2]) (rest := []) rfl (Nat.le_of_ble_eq_true rfl) ⟨Nat.le_of_ble_eq_true rfl, Nat.le_of_ble_eq_true rfl⟩ dX6_isRun_13 (fun r13 σ13 H locs hq_13 hR hS => ?_)
    obtain ⟨rfl, rfl⟩ := hq_13
    refine lv_if_eq (tgt := 35) hx hb dX6_isRun_16 (by decide) (fun c_16 => ?_) (fun c_16 => ?_)
    · replace hf := (if_pos c_16).symm.trans hf
      refine lv_iconst (v := 0) hx hb dX6_isRun_35 (by decide) ?_
      obtain rfl := Option.some.inj hf
      exact x_zret C hR hS dX6_isRun_36 (by first | rfl | decide | (simp only []; split <;> rfl)) ⟨rfl, rfl⟩
    · replace hf := (if_neg c_16).symm.trans hf
      refine lv_iload_n hx hb dX6_isRun_19 rfl (lv_at hl 2 rfl) ?_
      refine lv_i2l (v := x2.toInt64) hx hb dX6_isRun_20 rfl ?_
      refine lv_lconst (v := 1) hx hb dX6_isRun_21 (by decide) ?_
      refine lv_ldc2 (v := 9) hx hb C.2.2.2.2.1 (C.2.2.2.2.2.1 _ (List.mem_of_getElem? (i := 2) rfl)) dX6_isRun_22 ?_
      obtain ⟨r25_, σ25_, hc_25, hf⟩ := bd_some hf
      refine x_csI C hl.1 hR hS (c_X6_in l G x2.toInt64 1 9 σ13 _ hc_25) gX6_isRun_X6_in rfl hdS_X6_in ⟨Nat.le_of_ble_eq_true rfl, Nat.le_of_ble_eq_true rfl⟩ rfl (As := [.long x2.toInt64, .long 1, .long 9]) (rest := []) rfl (Nat.le_of_ble_eq_true rfl) ⟨Nat.le_of_ble_eq_true rfl, Nat.le_of_ble_eq_true rfl⟩ dX6_isRun_25 (fun r25 σ25 H locs hq_25 hR hS => ?_)
      obtain ⟨rfl, rfl⟩ := hq_25
      refine lv_if_eq (tgt := 35) hx hb dX6_isRun_28 (by decide) (fun c_28 => ?_) (fun c_28 => ?_)
      · replace hf := (if_pos c_28).symm.trans hf
        refine lv_iconst (v := 0) hx hb dX6_isRun_35 (by decide) ?_
        obtain rfl := Option.some.inj hf
        exact x_zret C hR hS dX6_isRun_36 (by first | rfl | decide | (simp only []; split <;> rfl)) ⟨rfl, rfl⟩
      · replace hf := (if_neg c_28).symm.trans hf
        refine lv_iconst (v := 1) hx hb dX6_isRun_31 (by decide) ?_
        refine lv_goto (tgt := 36) hx hb dX6_isRun_32 (by decide) ?_
        obtain rfl := Option.some.inj hf
        exact x_zret C hR hS dX6_isRun_36 (by first | rfl | decide | (simp only []; split <;> rfl)) ⟨rfl, rfl⟩
theorem hdV_X6_runNow : yX6_runNow.cls = RX6 ∧ yX6_runNow.cls ≠ "java/lang/invoke/MethodHandle" ∧ yX6_runNow.cls ≠ "java/lang/invoke/VarHandle" ∧ (parseMethodDescriptor yX6_runNow.desc).map (fun d => d.parameters.length) = some 4 := by decide +kernel
def f_X6_runNow (x1 : Int32) (x2 : Int32) (x3 : Int32) (x4 : Int32) (σ : St) : Option (Int32 × St) :=
  bv (f_X6_layHand σ) (fun σ1 => bd (f_X6_goRun x1 x2 x3 (2 * x4) σ1) (fun r12 σ12 => some (r12, σ12)))
set_option maxHeartbeats 4000000 in
set_option maxRecDepth 100000 in
theorem c_X6_runNow (l : Launch) (G : GG) (x1 : Int32) (x2 : Int32) (x3 : Int32) (x4 : Int32) (σ : St) (res : Int32 × St) (hf : f_X6_runNow x1 x2 x3 x4 σ = some res) : CI l yX6_runNow wsX6_runNow 3 [.ref (G.2.1 75), .int x1, .int x2, .int x3, .int x4] G σ (fun r u => r = res.1 ∧ u = res.2) := by
  refine x_ent (ret := (some .int)) cX6_runNow 5 (by decide) rfl (Nat.le_of_ble_eq_true rfl) ?_
  intro p e s m below meth c ls C hR hS hl
  have C : Cx p s m [.ref (G.2.1 75), .int x1, .int x2, .int x3, .int x4].toArray meth c cX6_runNow RX6 wsX6_runNow (some .int) 5 G := C
  have hx := C.1
  have hb := C.2.1
  have hl : lv_has ls 5 [(0, .ref (G.2.1 75)), (1, .int x1), (2, .int x2), (3, .int x3), (4, .int x4)] := hl
  unfold f_X6_runNow at hf
  refine lv_aload_n hx hb dX6_runNow_0 rfl (lv_at hl 0 rfl) ?_
  obtain ⟨σ1_, hc_1, hf⟩ := bv_some hf
  refine x_cvV C hl.1 hR hS (c_X6_layHand l G σ _ hc_1) gX6_runNow_X6_layHand rfl hdV_X6_layHand ⟨Nat.le_of_ble_eq_true rfl, Nat.le_of_ble_eq_true rfl⟩ (by decide) (cz5 rfl) rfl rfl (As := []) (rest := []) rfl (Nat.le_of_ble_eq_true rfl) ⟨Nat.le_of_ble_eq_true rfl, Nat.le_of_ble_eq_true rfl⟩ dX6_runNow_1 (fun σ1 H locs hq_1 hR hS => ?_)
  subst hq_1
  refine lv_aload_n hx hb dX6_runNow_4 rfl (lv_at hl 0 rfl) ?_
  refine lv_iload_n hx hb dX6_runNow_5 rfl (lv_at hl 1 rfl) ?_
  refine lv_iload_n hx hb dX6_runNow_6 rfl (lv_at hl 2 rfl) ?_
  refine lv_iload_n hx hb dX6_runNow_7 rfl (lv_at hl 3 rfl) ?_
  refine lv_iconst (v := 2) hx hb dX6_runNow_8 (by decide) ?_
  refine lv_iload hx hb dX6_runNow_9 (lv_at hl 4 rfl) ?_
  refine lv_imul hx hb dX6_runNow_11 ?_
  obtain ⟨r12_, σ12_, hc_12, hf⟩ := bd_some hf
  refine x_cvI C hl.1 hR hS (c_X6_goRun l G x1 x2 x3 (2 * x4) σ1 _ hc_12) gX6_runNow_X6_goRun rfl hdV_X6_goRun ⟨Nat.le_of_ble_eq_true rfl, Nat.le_of_ble_eq_true rfl⟩ (by decide) (cz5 rfl) rfl rfl (As := [.int x1, .int x2, .int x3, .int (2 * x4)]) (rest := []) rfl (Nat.le_of_ble_eq_true rfl) ⟨Nat.le_of_ble_eq_true rfl, Nat.le_of_ble_eq_true rfl⟩ dX6_runNow_12 (fun r12 σ12 H locs hq_12 hR hS => ?_)
  obtain ⟨rfl, rfl⟩ := hq_12
  obtain rfl := Option.some.inj hf
  exact x_iret C hR hS dX6_runNow_15 ⟨rfl, rfl⟩
theorem hdV_X6_run : yX6_run.cls = RX6 ∧ yX6_run.cls ≠ "java/lang/invoke/MethodHandle" ∧ yX6_run.cls ≠ "java/lang/invoke/VarHandle" ∧ (parseMethodDescriptor yX6_run.desc).map (fun d => d.parameters.length) = some 4 := by decide +kernel
def f_X6_run_69 : Nat → Int32 → Int32 → Int32 → St → Option (Int32 × St)
  | 0, _, _, _, _ => none
  | n + 1, x1, x5, x6, σ => bd (f_X6_locks σ) (fun r72 σ72 => (if r72 ≤ x6 then some (x5, σ72) else gd (((6 + (3 * x6)) + 1) < 0 ∨ 122 ≤ ((6 + (3 * x6)) + 1).toNatClampNeg) ((f_X6_run_69 n) x1 x5 (x6 + 1) (pA σ72 76 (((6 + (3 * x6)) + 1).toNatClampNeg) (1 - x1)))))
def f_X6_run (x1 : Int32) (x2 : Int32) (x3 : Int32) (x4 : Int32) (σ : St) : Option (Int32 × St) :=
  bd (f_X6_isRun x1 x2 x3 σ) (fun r3 σ3 => (if r3 = 0 then bd (f_X6_bad (-2) σ3) (fun r23 σ23 => some (r23, σ23)) else bd (f_X6_in x4.toInt64 0 1 σ3) (fun r14 σ14 => (if r14 = 0 then bd (f_X6_bad (-2) σ14) (fun r23 σ23 => some (r23, σ23)) else bd (f_X6_runNow x1 x2 x3 x4 σ14) (fun r33 σ33 => bv (f_X6_keep σ33) (fun σ39 => bd (f_X6_waterOf (pA σ39 76 2 ((sA σ39 76 2) + r33))) (fun r61 σ61 => f_X6_run_69 FU x1 r33 0 (pA σ61 76 3 ((sA σ39 76 3) + r61)))))))))
set_option maxHeartbeats 4000000 in
set_option maxRecDepth 100000 in
theorem w_X6_run_69 {p : Program} {l : Launch} {e : Env} {s : State} {m : MethodId} {args : Array Value} {below : List Frame} {meth : Method} {c : Code} {G : GG} (C : Cx p s m args meth c cX6_run RX6 wsX6_run (some .int) 7 G) {res : Int32 × St} : ∀ (n : Nat) (x1 : Int32) (x5 : Int32) (x6 : Int32) (σ : St), f_X6_run_69 n x1 x5 x6 σ = some res → WC p l e 4 s m args below meth c G (QI G res) 7 69 [(0, .ref (G.2.1 75)), (1, .int x1), (5, .int x5), (6, .int x6)] [] σ := by
  have hx := C.1
  have hb := C.2.1
  have inX6 : ∀ w ∈ u_ws RX6 TX6 22, w ∈ wsX6_run := fun w h => List.mem_cons_of_mem _ (List.mem_append_right _ h)
  intro n
  induction n with
  | zero => intro x1 x5 x6 σ hf; cases hf
  | succ n hrc69 =>
    intro x1 x5 x6 σ hf _ _ _ hR hS hl
    unfold f_X6_run_69 at hf
    refine lv_iload hx hb dX6_run_69 (lv_at hl 3 rfl) ?_
    refine lv_aload_n hx hb dX6_run_71 rfl (lv_at hl 0 rfl) ?_
    obtain ⟨r72_, σ72_, hc_72, hf⟩ := bd_some hf
    refine x_cvI C hl.1 hR hS (c_X6_locks l G σ _ hc_72) gX6_run_X6_locks rfl hdV_X6_locks ⟨Nat.le_of_ble_eq_true rfl, Nat.le_of_ble_eq_true rfl⟩ (by decide) (cz5 rfl) rfl rfl (As := []) (rest := [.int x6]) rfl (Nat.le_of_ble_eq_true rfl) ⟨Nat.le_of_ble_eq_true rfl, Nat.le_of_ble_eq_true rfl⟩ dX6_run_72 (fun r72 σ72 H locs hq_72 hR hS => ?_)
    obtain ⟨rfl, rfl⟩ := hq_72
    refine lv_icmp_ge (tgt := 101) hx hb dX6_run_75 (by decide) (fun c_75 => ?_) (fun c_75 => ?_)
    · replace hf := (if_pos c_75).symm.trans hf
      refine lv_iload hx hb dX6_run_101 (lv_at hl 2 rfl) ?_
      obtain rfl := Option.some.inj hf
      exact x_iret C hR hS dX6_run_103 ⟨rfl, rfl⟩
    · replace hf := (if_neg c_75).symm.trans hf
      refine lv_aload_n hx hb dX6_run_78 rfl (lv_at hl 0 rfl) ?_
      refine x_get C hR inX6 75 (by decide) (cz5 rfl) rfl 0 (by decide) 1 rfl (.ref (G.2.1 76)) rfl dX6_run_79 ?_
      refine lv_bipush (v := 6) hx hb dX6_run_82 (by decide) ?_
      refine lv_iconst (v := 3) hx hb dX6_run_84 (by decide) ?_
      refine lv_iload hx hb dX6_run_85 (lv_at hl 3 rfl) ?_
      refine lv_imul hx hb dX6_run_87 ?_
      refine lv_iadd hx hb dX6_run_88 ?_
      refine lv_iconst (v := 1) hx hb dX6_run_89 (by decide) ?_
      refine lv_iadd hx hb dX6_run_90 ?_
      refine lv_iconst (v := 1) hx hb dX6_run_91 (by decide) ?_
      refine lv_iload_n hx hb dX6_run_92 rfl (lv_at hl 1 rfl) ?_
      refine lv_isub hx hb dX6_run_93 ?_
      obtain ⟨z_94, hf⟩ := gd_some hf
      refine x_iast C hR hS 76 rfl z_94 (n := ((6 + (3 * x6)) + 1).toNatClampNeg) rfl dX6_run_94 (fun H locs hR hS => ?_)
      refine lv_iinc (v := x6 + 1) (lv' := [(6, .int (x6 + 1)), (0, .ref (G.2.1 75)), (1, .int x1), (5, .int x5)]) hx hb dX6_run_95 hl (k := 3) rfl rfl (by decide) rfl (fun ls hl => ?_)
      refine lv_goto (tgt := 69) hx hb dX6_run_98 (by decide) ?_
      exact hrc69 x1 x5 (x6 + 1) _ hf _ _ _ hR hS (lv_sub hl [1, 2, 3, 0] rfl)
set_option maxHeartbeats 4000000 in
set_option maxRecDepth 100000 in
theorem c_X6_run (l : Launch) (G : GG) (x1 : Int32) (x2 : Int32) (x3 : Int32) (x4 : Int32) (σ : St) (res : Int32 × St) (hf : f_X6_run x1 x2 x3 x4 σ = some res) : CI l yX6_run wsX6_run 4 [.ref (G.2.1 75), .int x1, .int x2, .int x3, .int x4] G σ (fun r u => r = res.1 ∧ u = res.2) := by
  refine x_ent (ret := (some .int)) cX6_run 7 (by decide) rfl (Nat.le_of_ble_eq_true rfl) ?_
  intro p e s m below meth c ls C hR hS hl
  have C : Cx p s m [.ref (G.2.1 75), .int x1, .int x2, .int x3, .int x4].toArray meth c cX6_run RX6 wsX6_run (some .int) 7 G := C
  have hx := C.1
  have hb := C.2.1
  have hl : lv_has ls 7 [(0, .ref (G.2.1 75)), (1, .int x1), (2, .int x2), (3, .int x3), (4, .int x4)] := hl
  have inX6 : ∀ w ∈ u_ws RX6 TX6 22, w ∈ wsX6_run := fun w h => List.mem_cons_of_mem _ (List.mem_append_right _ h)
  unfold f_X6_run at hf
  refine lv_iload_n hx hb dX6_run_0 rfl (lv_at hl 1 rfl) ?_
  refine lv_iload_n hx hb dX6_run_1 rfl (lv_at hl 2 rfl) ?_
  refine lv_iload_n hx hb dX6_run_2 rfl (lv_at hl 3 rfl) ?_
  obtain ⟨r3_, σ3_, hc_3, hf⟩ := bd_some hf
  refine x_csI C hl.1 hR hS (c_X6_isRun l G x1 x2 x3 σ _ hc_3) gX6_run_X6_isRun rfl hdS_X6_isRun ⟨Nat.le_of_ble_eq_true rfl, Nat.le_of_ble_eq_true rfl⟩ rfl (As := [.int x1, .int x2, .int x3]) (rest := []) rfl (Nat.le_of_ble_eq_true rfl) ⟨Nat.le_of_ble_eq_true rfl, Nat.le_of_ble_eq_true rfl⟩ dX6_run_3 (fun r3 σ3 H locs hq_3 hR hS => ?_)
  obtain ⟨rfl, rfl⟩ := hq_3
  refine lv_if_eq (tgt := 20) hx hb dX6_run_6 (by decide) (fun c_6 => ?_) (fun c_6 => ?_)
  · replace hf := (if_pos c_6).symm.trans hf
    refine lv_aload_n hx hb dX6_run_20 rfl (lv_at hl 0 rfl) ?_
    refine lv_bipush (v := (-2)) hx hb dX6_run_21 (by decide) ?_
    obtain ⟨r23_, σ23_, hc_23, hf⟩ := bd_some hf
    refine x_cvI C hl.1 hR hS (c_X6_bad l G (-2) σ3 _ hc_23) gX6_run_X6_bad rfl hdV_X6_bad ⟨Nat.le_of_ble_eq_true rfl, Nat.le_of_ble_eq_true rfl⟩ (by decide) (cz5 rfl) rfl rfl (As := [.int (-2)]) (rest := []) rfl (Nat.le_of_ble_eq_true rfl) ⟨Nat.le_of_ble_eq_true rfl, Nat.le_of_ble_eq_true rfl⟩ dX6_run_23 (fun r23 σ23 H locs hq_23 hR hS => ?_)
    obtain ⟨rfl, rfl⟩ := hq_23
    obtain rfl := Option.some.inj hf
    exact x_iret C hR hS dX6_run_26 ⟨rfl, rfl⟩
  · replace hf := (if_neg c_6).symm.trans hf
    refine lv_iload hx hb dX6_run_9 (lv_at hl 4 rfl) ?_
    refine lv_i2l (v := x4.toInt64) hx hb dX6_run_11 rfl ?_
    refine lv_lconst (v := 0) hx hb dX6_run_12 (by decide) ?_
    refine lv_lconst (v := 1) hx hb dX6_run_13 (by decide) ?_
    obtain ⟨r14_, σ14_, hc_14, hf⟩ := bd_some hf
    refine x_csI C hl.1 hR hS (c_X6_in l G x4.toInt64 0 1 σ3 _ hc_14) gX6_run_X6_in rfl hdS_X6_in ⟨Nat.le_of_ble_eq_true rfl, Nat.le_of_ble_eq_true rfl⟩ rfl (As := [.long x4.toInt64, .long 0, .long 1]) (rest := []) rfl (Nat.le_of_ble_eq_true rfl) ⟨Nat.le_of_ble_eq_true rfl, Nat.le_of_ble_eq_true rfl⟩ dX6_run_14 (fun r14 σ14 H locs hq_14 hR hS => ?_)
    obtain ⟨rfl, rfl⟩ := hq_14
    refine lv_if_ne (tgt := 27) hx hb dX6_run_17 (by decide) (fun c_17 => ?_) (fun c_17 => ?_)
    · replace hf := (if_neg c_17).symm.trans hf
      refine lv_aload_n hx hb dX6_run_27 rfl (lv_at hl 0 rfl) ?_
      refine lv_iload_n hx hb dX6_run_28 rfl (lv_at hl 1 rfl) ?_
      refine lv_iload_n hx hb dX6_run_29 rfl (lv_at hl 2 rfl) ?_
      refine lv_iload_n hx hb dX6_run_30 rfl (lv_at hl 3 rfl) ?_
      refine lv_iload hx hb dX6_run_31 (lv_at hl 4 rfl) ?_
      obtain ⟨r33_, σ33_, hc_33, hf⟩ := bd_some hf
      refine x_cvI C hl.1 hR hS (c_X6_runNow l G x1 x2 x3 x4 σ14 _ hc_33) gX6_run_X6_runNow rfl hdV_X6_runNow ⟨Nat.le_of_ble_eq_true rfl, Nat.le_of_ble_eq_true rfl⟩ (by decide) (cz5 rfl) rfl rfl (As := [.int x1, .int x2, .int x3, .int x4]) (rest := []) rfl (Nat.le_of_ble_eq_true rfl) ⟨Nat.le_of_ble_eq_true rfl, Nat.le_of_ble_eq_true rfl⟩ dX6_run_33 (fun r33 σ33 H locs hq_33 hR hS => ?_)
      obtain ⟨rfl, rfl⟩ := hq_33
      refine lv_istore (lv' := [(5, .int r33), (0, .ref (G.2.1 75)), (1, .int x1), (2, .int x2), (3, .int x3), (4, .int x4)]) hx hb dX6_run_36 hl (by decide) rfl (fun ls hl => ?_)
      refine lv_aload_n hx hb dX6_run_38 rfl (lv_at hl 1 rfl) ?_
      obtain ⟨σ39_, hc_39, hf⟩ := bv_some hf
      refine x_cvV C hl.1 hR hS (c_X6_keep l G σ33 _ hc_39) gX6_run_X6_keep rfl hdV_X6_keep ⟨Nat.le_of_ble_eq_true rfl, Nat.le_of_ble_eq_true rfl⟩ (by decide) (cz5 rfl) rfl rfl (As := []) (rest := []) rfl (Nat.le_of_ble_eq_true rfl) ⟨Nat.le_of_ble_eq_true rfl, Nat.le_of_ble_eq_true rfl⟩ dX6_run_39 (fun σ39 H locs hq_39 hR hS => ?_)
      subst hq_39
      refine lv_aload_n hx hb dX6_run_42 rfl (lv_at hl 1 rfl) ?_
      refine x_get C hR inX6 75 (by decide) (cz5 rfl) rfl 0 (by decide) 1 rfl (.ref (G.2.1 76)) rfl dX6_run_43 ?_
      refine lv_iconst (v := 2) hx hb dX6_run_46 (by decide) ?_
      refine lv_dup2_11 hx hb dX6_run_47 rfl rfl ?_
      refine x_iald C hR 76 rfl (x_in rfl) (n := 2) rfl (sA σ39 76 2) rfl dX6_run_48 ?_
      refine lv_iload hx hb dX6_run_49 (lv_at hl 0 rfl) ?_
      refine lv_iadd hx hb dX6_run_51 ?_
      refine x_iast C hR hS 76 rfl (x_in rfl) (n := 2) rfl dX6_run_52 (fun H locs hR hS => ?_)
      refine lv_aload_n hx hb dX6_run_53 rfl (lv_at hl 1 rfl) ?_
      refine x_get C hR inX6 75 (by decide) (cz5 rfl) rfl 0 (by decide) 1 rfl (.ref (G.2.1 76)) rfl dX6_run_54 ?_
      refine lv_iconst (v := 3) hx hb dX6_run_57 (by decide) ?_
      refine lv_dup2_11 hx hb dX6_run_58 rfl rfl ?_
      refine x_iald C hR 76 rfl (x_in rfl) (n := 3) rfl (sA σ39 76 3) rfl dX6_run_59 ?_
      refine lv_aload_n hx hb dX6_run_60 rfl (lv_at hl 1 rfl) ?_
      obtain ⟨r61_, σ61_, hc_61, hf⟩ := bd_some hf
      refine x_cvI C hl.1 hR hS (c_X6_waterOf l G (pA σ39 76 2 ((sA σ39 76 2) + r33)) _ hc_61) gX6_run_X6_waterOf rfl hdV_X6_waterOf ⟨Nat.le_of_ble_eq_true rfl, Nat.le_of_ble_eq_true rfl⟩ (by decide) (cz5 rfl) rfl rfl (As := []) (rest := [.int (sA σ39 76 3), .int 3, .ref (G.2.1 76)]) rfl (Nat.le_of_ble_eq_true rfl) ⟨Nat.le_of_ble_eq_true rfl, Nat.le_of_ble_eq_true rfl⟩ dX6_run_61 (fun r61 σ61 H locs hq_61 hR hS => ?_)
      obtain ⟨rfl, rfl⟩ := hq_61
      refine lv_iadd hx hb dX6_run_64 ?_
      refine x_iast C hR hS 76 rfl (x_in rfl) (n := 3) rfl dX6_run_65 (fun H locs hR hS => ?_)
      refine lv_iconst (v := 0) hx hb dX6_run_66 (by decide) ?_
      refine lv_istore (lv' := [(6, .int 0), (5, .int r33), (0, .ref (G.2.1 75)), (1, .int x1), (2, .int x2), (3, .int x3), (4, .int x4)]) hx hb dX6_run_67 hl (by decide) rfl (fun ls hl => ?_)
      exact w_X6_run_69 C  FU x1 r33 0 _ hf _ _ _ hR hS (lv_sub hl [2, 3, 1, 0] rfl)
    · replace hf := (if_pos c_17).symm.trans hf
      refine lv_aload_n hx hb dX6_run_20 rfl (lv_at hl 0 rfl) ?_
      refine lv_bipush (v := (-2)) hx hb dX6_run_21 (by decide) ?_
      obtain ⟨r23_, σ23_, hc_23, hf⟩ := bd_some hf
      refine x_cvI C hl.1 hR hS (c_X6_bad l G (-2) σ14 _ hc_23) gX6_run_X6_bad rfl hdV_X6_bad ⟨Nat.le_of_ble_eq_true rfl, Nat.le_of_ble_eq_true rfl⟩ (by decide) (cz5 rfl) rfl rfl (As := [.int (-2)]) (rest := []) rfl (Nat.le_of_ble_eq_true rfl) ⟨Nat.le_of_ble_eq_true rfl, Nat.le_of_ble_eq_true rfl⟩ dX6_run_23 (fun r23 σ23 H locs hq_23 hR hS => ?_)
      obtain ⟨rfl, rfl⟩ := hq_23
      obtain rfl := Option.some.inj hf
      exact x_iret C hR hS dX6_run_26 ⟨rfl, rfl⟩
theorem hdV_X6_takes : yX6_takes.cls = RX6 ∧ yX6_takes.cls ≠ "java/lang/invoke/MethodHandle" ∧ yX6_takes.cls ≠ "java/lang/invoke/VarHandle" ∧ (parseMethodDescriptor yX6_takes.desc).map (fun d => d.parameters.length) = some 5 := by decide +kernel
def f_X6_takes (x1 : Int32) (x2 : Int32) (x3 : Int32) (x4 : Int32) (x5 : Int32) (σ : St) : Option (Int32 × St) :=
  bd (f_X6_isRun x1 x2 x3 σ) (fun r3 σ3 => (if r3 = 0 then bd (f_X6_bad (-2) σ3) (fun r34 σ34 => some (r34, σ34)) else bd (f_X6_in x4.toInt64 0 1 σ3) (fun r14 σ14 => (if r14 = 0 then bd (f_X6_bad (-2) σ14) (fun r34 σ34 => some (r34, σ34)) else bd (f_X6_in x5.toInt64 0 1 σ14) (fun r25 σ25 => (if r25 = 0 then bd (f_X6_bad (-2) σ25) (fun r34 σ34 => some (r34, σ34)) else bd (f_X6_runNow x1 x2 x3 x4 σ25) (fun r44 σ44 => (if x5 = 0 then some (r44, σ44) else bd (f_X6_waterOf σ44) (fun r60 σ60 => some (r60, σ60))))))))))
set_option maxHeartbeats 4000000 in
set_option maxRecDepth 100000 in
theorem c_X6_takes (l : Launch) (G : GG) (x1 : Int32) (x2 : Int32) (x3 : Int32) (x4 : Int32) (x5 : Int32) (σ : St) (res : Int32 × St) (hf : f_X6_takes x1 x2 x3 x4 x5 σ = some res) : CI l yX6_takes wsX6_takes 4 [.ref (G.2.1 75), .int x1, .int x2, .int x3, .int x4, .int x5] G σ (fun r u => r = res.1 ∧ u = res.2) := by
  refine x_ent (ret := (some .int)) cX6_takes 7 (by decide) rfl (Nat.le_of_ble_eq_true rfl) ?_
  intro p e s m below meth c ls C hR hS hl
  have C : Cx p s m [.ref (G.2.1 75), .int x1, .int x2, .int x3, .int x4, .int x5].toArray meth c cX6_takes RX6 wsX6_takes (some .int) 7 G := C
  have hx := C.1
  have hb := C.2.1
  have hl : lv_has ls 7 [(0, .ref (G.2.1 75)), (1, .int x1), (2, .int x2), (3, .int x3), (4, .int x4), (5, .int x5)] := hl
  unfold f_X6_takes at hf
  refine lv_iload_n hx hb dX6_takes_0 rfl (lv_at hl 1 rfl) ?_
  refine lv_iload_n hx hb dX6_takes_1 rfl (lv_at hl 2 rfl) ?_
  refine lv_iload_n hx hb dX6_takes_2 rfl (lv_at hl 3 rfl) ?_
  obtain ⟨r3_, σ3_, hc_3, hf⟩ := bd_some hf
  refine x_csI C hl.1 hR hS (c_X6_isRun l G x1 x2 x3 σ _ hc_3) gX6_takes_X6_isRun rfl hdS_X6_isRun ⟨Nat.le_of_ble_eq_true rfl, Nat.le_of_ble_eq_true rfl⟩ rfl (As := [.int x1, .int x2, .int x3]) (rest := []) rfl (Nat.le_of_ble_eq_true rfl) ⟨Nat.le_of_ble_eq_true rfl, Nat.le_of_ble_eq_true rfl⟩ dX6_takes_3 (fun r3 σ3 H locs hq_3 hR hS => ?_)
  obtain ⟨rfl, rfl⟩ := hq_3
  refine lv_if_eq (tgt := 31) hx hb dX6_takes_6 (by decide) (fun c_6 => ?_) (fun c_6 => ?_)
  · replace hf := (if_pos c_6).symm.trans hf
    refine lv_aload_n hx hb dX6_takes_31 rfl (lv_at hl 0 rfl) ?_
    refine lv_bipush (v := (-2)) hx hb dX6_takes_32 (by decide) ?_
    obtain ⟨r34_, σ34_, hc_34, hf⟩ := bd_some hf
    refine x_cvI C hl.1 hR hS (c_X6_bad l G (-2) σ3 _ hc_34) gX6_takes_X6_bad rfl hdV_X6_bad ⟨Nat.le_of_ble_eq_true rfl, Nat.le_of_ble_eq_true rfl⟩ (by decide) (cz5 rfl) rfl rfl (As := [.int (-2)]) (rest := []) rfl (Nat.le_of_ble_eq_true rfl) ⟨Nat.le_of_ble_eq_true rfl, Nat.le_of_ble_eq_true rfl⟩ dX6_takes_34 (fun r34 σ34 H locs hq_34 hR hS => ?_)
    obtain ⟨rfl, rfl⟩ := hq_34
    obtain rfl := Option.some.inj hf
    exact x_iret C hR hS dX6_takes_37 ⟨rfl, rfl⟩
  · replace hf := (if_neg c_6).symm.trans hf
    refine lv_iload hx hb dX6_takes_9 (lv_at hl 4 rfl) ?_
    refine lv_i2l (v := x4.toInt64) hx hb dX6_takes_11 rfl ?_
    refine lv_lconst (v := 0) hx hb dX6_takes_12 (by decide) ?_
    refine lv_lconst (v := 1) hx hb dX6_takes_13 (by decide) ?_
    obtain ⟨r14_, σ14_, hc_14, hf⟩ := bd_some hf
    refine x_csI C hl.1 hR hS (c_X6_in l G x4.toInt64 0 1 σ3 _ hc_14) gX6_takes_X6_in rfl hdS_X6_in ⟨Nat.le_of_ble_eq_true rfl, Nat.le_of_ble_eq_true rfl⟩ rfl (As := [.long x4.toInt64, .long 0, .long 1]) (rest := []) rfl (Nat.le_of_ble_eq_true rfl) ⟨Nat.le_of_ble_eq_true rfl, Nat.le_of_ble_eq_true rfl⟩ dX6_takes_14 (fun r14 σ14 H locs hq_14 hR hS => ?_)
    obtain ⟨rfl, rfl⟩ := hq_14
    refine lv_if_eq (tgt := 31) hx hb dX6_takes_17 (by decide) (fun c_17 => ?_) (fun c_17 => ?_)
    · replace hf := (if_pos c_17).symm.trans hf
      refine lv_aload_n hx hb dX6_takes_31 rfl (lv_at hl 0 rfl) ?_
      refine lv_bipush (v := (-2)) hx hb dX6_takes_32 (by decide) ?_
      obtain ⟨r34_, σ34_, hc_34, hf⟩ := bd_some hf
      refine x_cvI C hl.1 hR hS (c_X6_bad l G (-2) σ14 _ hc_34) gX6_takes_X6_bad rfl hdV_X6_bad ⟨Nat.le_of_ble_eq_true rfl, Nat.le_of_ble_eq_true rfl⟩ (by decide) (cz5 rfl) rfl rfl (As := [.int (-2)]) (rest := []) rfl (Nat.le_of_ble_eq_true rfl) ⟨Nat.le_of_ble_eq_true rfl, Nat.le_of_ble_eq_true rfl⟩ dX6_takes_34 (fun r34 σ34 H locs hq_34 hR hS => ?_)
      obtain ⟨rfl, rfl⟩ := hq_34
      obtain rfl := Option.some.inj hf
      exact x_iret C hR hS dX6_takes_37 ⟨rfl, rfl⟩
    · replace hf := (if_neg c_17).symm.trans hf
      refine lv_iload hx hb dX6_takes_20 (lv_at hl 5 rfl) ?_
      refine lv_i2l (v := x5.toInt64) hx hb dX6_takes_22 rfl ?_
      refine lv_lconst (v := 0) hx hb dX6_takes_23 (by decide) ?_
      refine lv_lconst (v := 1) hx hb dX6_takes_24 (by decide) ?_
      obtain ⟨r25_, σ25_, hc_25, hf⟩ := bd_some hf
      refine x_csI C hl.1 hR hS (c_X6_in l G x5.toInt64 0 1 σ14 _ hc_25) gX6_takes_X6_in rfl hdS_X6_in ⟨Nat.le_of_ble_eq_true rfl, Nat.le_of_ble_eq_true rfl⟩ rfl (As := [.long x5.toInt64, .long 0, .long 1]) (rest := []) rfl (Nat.le_of_ble_eq_true rfl) ⟨Nat.le_of_ble_eq_true rfl, Nat.le_of_ble_eq_true rfl⟩ dX6_takes_25 (fun r25 σ25 H locs hq_25 hR hS => ?_)
      obtain ⟨rfl, rfl⟩ := hq_25
      refine lv_if_ne (tgt := 38) hx hb dX6_takes_28 (by decide) (fun c_28 => ?_) (fun c_28 => ?_)
      · replace hf := (if_neg c_28).symm.trans hf
        refine lv_aload_n hx hb dX6_takes_38 rfl (lv_at hl 0 rfl) ?_
        refine lv_iload_n hx hb dX6_takes_39 rfl (lv_at hl 1 rfl) ?_
        refine lv_iload_n hx hb dX6_takes_40 rfl (lv_at hl 2 rfl) ?_
        refine lv_iload_n hx hb dX6_takes_41 rfl (lv_at hl 3 rfl) ?_
        refine lv_iload hx hb dX6_takes_42 (lv_at hl 4 rfl) ?_
        obtain ⟨r44_, σ44_, hc_44, hf⟩ := bd_some hf
        refine x_cvI C hl.1 hR hS (c_X6_runNow l G x1 x2 x3 x4 σ25 _ hc_44) gX6_takes_X6_runNow rfl hdV_X6_runNow ⟨Nat.le_of_ble_eq_true rfl, Nat.le_of_ble_eq_true rfl⟩ (by decide) (cz5 rfl) rfl rfl (As := [.int x1, .int x2, .int x3, .int x4]) (rest := []) rfl (Nat.le_of_ble_eq_true rfl) ⟨Nat.le_of_ble_eq_true rfl, Nat.le_of_ble_eq_true rfl⟩ dX6_takes_44 (fun r44 σ44 H locs hq_44 hR hS => ?_)
        obtain ⟨rfl, rfl⟩ := hq_44
        refine lv_istore (lv' := [(6, .int r44), (0, .ref (G.2.1 75)), (1, .int x1), (2, .int x2), (3, .int x3), (4, .int x4), (5, .int x5)]) hx hb dX6_takes_47 hl (by decide) rfl (fun ls hl => ?_)
        refine lv_iload hx hb dX6_takes_49 (lv_at hl 6 rfl) ?_
        refine lv_if_ne (tgt := 59) hx hb dX6_takes_51 (by decide) (fun c_51 => ?_) (fun c_51 => ?_)
        · replace hf := (if_neg c_51).symm.trans hf
          refine lv_aload_n hx hb dX6_takes_59 rfl (lv_at hl 1 rfl) ?_
          obtain ⟨r60_, σ60_, hc_60, hf⟩ := bd_some hf
          refine x_cvI C hl.1 hR hS (c_X6_waterOf l G σ44 _ hc_60) gX6_takes_X6_waterOf rfl hdV_X6_waterOf ⟨Nat.le_of_ble_eq_true rfl, Nat.le_of_ble_eq_true rfl⟩ (by decide) (cz5 rfl) rfl rfl (As := []) (rest := []) rfl (Nat.le_of_ble_eq_true rfl) ⟨Nat.le_of_ble_eq_true rfl, Nat.le_of_ble_eq_true rfl⟩ dX6_takes_60 (fun r60 σ60 H locs hq_60 hR hS => ?_)
          obtain ⟨rfl, rfl⟩ := hq_60
          obtain rfl := Option.some.inj hf
          exact x_iret C hR hS dX6_takes_63 ⟨rfl, rfl⟩
        · replace hf := (if_pos c_51).symm.trans hf
          refine lv_iload hx hb dX6_takes_54 (lv_at hl 0 rfl) ?_
          refine lv_goto (tgt := 63) hx hb dX6_takes_56 (by decide) ?_
          obtain rfl := Option.some.inj hf
          exact x_iret C hR hS dX6_takes_63 ⟨rfl, rfl⟩
      · replace hf := (if_pos c_28).symm.trans hf
        refine lv_aload_n hx hb dX6_takes_31 rfl (lv_at hl 0 rfl) ?_
        refine lv_bipush (v := (-2)) hx hb dX6_takes_32 (by decide) ?_
        obtain ⟨r34_, σ34_, hc_34, hf⟩ := bd_some hf
        refine x_cvI C hl.1 hR hS (c_X6_bad l G (-2) σ25 _ hc_34) gX6_takes_X6_bad rfl hdV_X6_bad ⟨Nat.le_of_ble_eq_true rfl, Nat.le_of_ble_eq_true rfl⟩ (by decide) (cz5 rfl) rfl rfl (As := [.int (-2)]) (rest := []) rfl (Nat.le_of_ble_eq_true rfl) ⟨Nat.le_of_ble_eq_true rfl, Nat.le_of_ble_eq_true rfl⟩ dX6_takes_34 (fun r34 σ34 H locs hq_34 hR hS => ?_)
        obtain ⟨rfl, rfl⟩ := hq_34
        obtain rfl := Option.some.inj hf
        exact x_iret C hR hS dX6_takes_37 ⟨rfl, rfl⟩
theorem hdV_X6_at : yX6_at.cls = RX6 ∧ yX6_at.cls ≠ "java/lang/invoke/MethodHandle" ∧ yX6_at.cls ≠ "java/lang/invoke/VarHandle" ∧ (parseMethodDescriptor yX6_at.desc).map (fun d => d.parameters.length) = some 6 := by decide +kernel
def f_X6_at (x1 : Int32) (x2 : Int32) (x3 : Int32) (x4 : Int32) (x5 : Int32) (x6 : Int32) (σ : St) : Option (Int32 × St) :=
  bd (f_X6_isRun x1 x2 x3 σ) (fun r3 σ3 => (if r3 = 0 then bd (f_X6_bad (-2) σ3) (fun r45 σ45 => some (r45, σ45)) else bd (f_X6_in x4.toInt64 0 1 σ3) (fun r14 σ14 => (if r14 = 0 then bd (f_X6_bad (-2) σ14) (fun r45 σ45 => some (r45, σ45)) else bd (f_X6_isLock x5 σ14) (fun r23 σ23 => (if r23 = 0 then bd (f_X6_bad (-2) σ23) (fun r45 σ45 => some (r45, σ45)) else bd (f_X6_in x6.toInt64 0 4 σ23) (fun r36 σ36 => (if r36 = 0 then bd (f_X6_bad (-2) σ36) (fun r45 σ45 => some (r45, σ45)) else bd (f_X6_runNow x1 x2 x3 x4 σ36) (fun r55 σ55 => (if x6 = 0 then gd (x5 < 0 ∨ 8 ≤ x5.toNatClampNeg) (some (sA σ55 81 x5.toNatClampNeg, σ55)) else (if x6 = 1 then gd (x5 < 0 ∨ 8 ≤ x5.toNatClampNeg) (some (sA σ55 82 x5.toNatClampNeg, σ55)) else (if x6 = 2 then gd (x5 < 0 ∨ 8 ≤ x5.toNatClampNeg) (some (sA σ55 83 x5.toNatClampNeg, σ55)) else (if x6 = 3 then gd (x5 < 0 ∨ 8 ≤ x5.toNatClampNeg) (some (sA σ55 84 x5.toNatClampNeg, σ55)) else gd (x5 < 0 ∨ 8 ≤ x5.toNatClampNeg) (some (sA σ55 85 x5.toNatClampNeg, σ55)))))))))))))))
set_option maxHeartbeats 4000000 in
set_option maxRecDepth 100000 in
theorem c_X6_at (l : Launch) (G : GG) (x1 : Int32) (x2 : Int32) (x3 : Int32) (x4 : Int32) (x5 : Int32) (x6 : Int32) (σ : St) (res : Int32 × St) (hf : f_X6_at x1 x2 x3 x4 x5 x6 σ = some res) : CI l yX6_at wsX6_at 4 [.ref (G.2.1 75), .int x1, .int x2, .int x3, .int x4, .int x5, .int x6] G σ (fun r u => r = res.1 ∧ u = res.2) := by
  refine x_ent (ret := (some .int)) cX6_at 8 (by decide) rfl (Nat.le_of_ble_eq_true rfl) ?_
  intro p e s m below meth c ls C hR hS hl
  have C : Cx p s m [.ref (G.2.1 75), .int x1, .int x2, .int x3, .int x4, .int x5, .int x6].toArray meth c cX6_at RX6 wsX6_at (some .int) 8 G := C
  have hx := C.1
  have hb := C.2.1
  have hl : lv_has ls 8 [(0, .ref (G.2.1 75)), (1, .int x1), (2, .int x2), (3, .int x3), (4, .int x4), (5, .int x5), (6, .int x6)] := hl
  have inX6 : ∀ w ∈ u_ws RX6 TX6 22, w ∈ wsX6_at := fun w h => List.mem_cons_of_mem _ (List.mem_append_right _ h)
  unfold f_X6_at at hf
  refine lv_iload_n hx hb dX6_at_0 rfl (lv_at hl 1 rfl) ?_
  refine lv_iload_n hx hb dX6_at_1 rfl (lv_at hl 2 rfl) ?_
  refine lv_iload_n hx hb dX6_at_2 rfl (lv_at hl 3 rfl) ?_
  obtain ⟨r3_, σ3_, hc_3, hf⟩ := bd_some hf
  refine x_csI C hl.1 hR hS (c_X6_isRun l G x1 x2 x3 σ _ hc_3) gX6_at_X6_isRun rfl hdS_X6_isRun ⟨Nat.le_of_ble_eq_true rfl, Nat.le_of_ble_eq_true rfl⟩ rfl (As := [.int x1, .int x2, .int x3]) (rest := []) rfl (Nat.le_of_ble_eq_true rfl) ⟨Nat.le_of_ble_eq_true rfl, Nat.le_of_ble_eq_true rfl⟩ dX6_at_3 (fun r3 σ3 H locs hq_3 hR hS => ?_)
  obtain ⟨rfl, rfl⟩ := hq_3
  refine lv_if_eq (tgt := 42) hx hb dX6_at_6 (by decide) (fun c_6 => ?_) (fun c_6 => ?_)
  · replace hf := (if_pos c_6).symm.trans hf
    refine lv_aload_n hx hb dX6_at_42 rfl (lv_at hl 0 rfl) ?_
    refine lv_bipush (v := (-2)) hx hb dX6_at_43 (by decide) ?_
    obtain ⟨r45_, σ45_, hc_45, hf⟩ := bd_some hf
    refine x_cvI C hl.1 hR hS (c_X6_bad l G (-2) σ3 _ hc_45) gX6_at_X6_bad rfl hdV_X6_bad ⟨Nat.le_of_ble_eq_true rfl, Nat.le_of_ble_eq_true rfl⟩ (by decide) (cz5 rfl) rfl rfl (As := [.int (-2)]) (rest := []) rfl (Nat.le_of_ble_eq_true rfl) ⟨Nat.le_of_ble_eq_true rfl, Nat.le_of_ble_eq_true rfl⟩ dX6_at_45 (fun r45 σ45 H locs hq_45 hR hS => ?_)
    obtain ⟨rfl, rfl⟩ := hq_45
    obtain rfl := Option.some.inj hf
    exact x_iret C hR hS dX6_at_48 ⟨rfl, rfl⟩
  · replace hf := (if_neg c_6).symm.trans hf
    refine lv_iload hx hb dX6_at_9 (lv_at hl 4 rfl) ?_
    refine lv_i2l (v := x4.toInt64) hx hb dX6_at_11 rfl ?_
    refine lv_lconst (v := 0) hx hb dX6_at_12 (by decide) ?_
    refine lv_lconst (v := 1) hx hb dX6_at_13 (by decide) ?_
    obtain ⟨r14_, σ14_, hc_14, hf⟩ := bd_some hf
    refine x_csI C hl.1 hR hS (c_X6_in l G x4.toInt64 0 1 σ3 _ hc_14) gX6_at_X6_in rfl hdS_X6_in ⟨Nat.le_of_ble_eq_true rfl, Nat.le_of_ble_eq_true rfl⟩ rfl (As := [.long x4.toInt64, .long 0, .long 1]) (rest := []) rfl (Nat.le_of_ble_eq_true rfl) ⟨Nat.le_of_ble_eq_true rfl, Nat.le_of_ble_eq_true rfl⟩ dX6_at_14 (fun r14 σ14 H locs hq_14 hR hS => ?_)
    obtain ⟨rfl, rfl⟩ := hq_14
    refine lv_if_eq (tgt := 42) hx hb dX6_at_17 (by decide) (fun c_17 => ?_) (fun c_17 => ?_)
    · replace hf := (if_pos c_17).symm.trans hf
      refine lv_aload_n hx hb dX6_at_42 rfl (lv_at hl 0 rfl) ?_
      refine lv_bipush (v := (-2)) hx hb dX6_at_43 (by decide) ?_
      obtain ⟨r45_, σ45_, hc_45, hf⟩ := bd_some hf
      refine x_cvI C hl.1 hR hS (c_X6_bad l G (-2) σ14 _ hc_45) gX6_at_X6_bad rfl hdV_X6_bad ⟨Nat.le_of_ble_eq_true rfl, Nat.le_of_ble_eq_true rfl⟩ (by decide) (cz5 rfl) rfl rfl (As := [.int (-2)]) (rest := []) rfl (Nat.le_of_ble_eq_true rfl) ⟨Nat.le_of_ble_eq_true rfl, Nat.le_of_ble_eq_true rfl⟩ dX6_at_45 (fun r45 σ45 H locs hq_45 hR hS => ?_)
      obtain ⟨rfl, rfl⟩ := hq_45
      obtain rfl := Option.some.inj hf
      exact x_iret C hR hS dX6_at_48 ⟨rfl, rfl⟩
    · replace hf := (if_neg c_17).symm.trans hf
      refine lv_aload_n hx hb dX6_at_20 rfl (lv_at hl 0 rfl) ?_
      refine lv_iload hx hb dX6_at_21 (lv_at hl 5 rfl) ?_
      obtain ⟨r23_, σ23_, hc_23, hf⟩ := bd_some hf
      refine x_cvI C hl.1 hR hS (c_X6_isLock l G x5 σ14 _ hc_23) gX6_at_X6_isLock rfl hdV_X6_isLock ⟨Nat.le_of_ble_eq_true rfl, Nat.le_of_ble_eq_true rfl⟩ (by decide) (cz5 rfl) rfl rfl (As := [.int x5]) (rest := []) rfl (Nat.le_of_ble_eq_true rfl) ⟨Nat.le_of_ble_eq_true rfl, Nat.le_of_ble_eq_true rfl⟩ dX6_at_23 (fun r23 σ23 H locs hq_23 hR hS => ?_)
      obtain ⟨rfl, rfl⟩ := hq_23
      refine lv_if_eq (tgt := 42) hx hb dX6_at_26 (by decide) (fun c_26 => ?_) (fun c_26 => ?_)
      · replace hf := (if_pos c_26).symm.trans hf
        refine lv_aload_n hx hb dX6_at_42 rfl (lv_at hl 0 rfl) ?_
        refine lv_bipush (v := (-2)) hx hb dX6_at_43 (by decide) ?_
        obtain ⟨r45_, σ45_, hc_45, hf⟩ := bd_some hf
        refine x_cvI C hl.1 hR hS (c_X6_bad l G (-2) σ23 _ hc_45) gX6_at_X6_bad rfl hdV_X6_bad ⟨Nat.le_of_ble_eq_true rfl, Nat.le_of_ble_eq_true rfl⟩ (by decide) (cz5 rfl) rfl rfl (As := [.int (-2)]) (rest := []) rfl (Nat.le_of_ble_eq_true rfl) ⟨Nat.le_of_ble_eq_true rfl, Nat.le_of_ble_eq_true rfl⟩ dX6_at_45 (fun r45 σ45 H locs hq_45 hR hS => ?_)
        obtain ⟨rfl, rfl⟩ := hq_45
        obtain rfl := Option.some.inj hf
        exact x_iret C hR hS dX6_at_48 ⟨rfl, rfl⟩
      · replace hf := (if_neg c_26).symm.trans hf
        refine lv_iload hx hb dX6_at_29 (lv_at hl 6 rfl) ?_
        refine lv_i2l (v := x6.toInt64) hx hb dX6_at_31 rfl ?_
        refine lv_lconst (v := 0) hx hb dX6_at_32 (by decide) ?_
        refine lv_ldc2 (v := 4) hx hb C.2.2.2.2.1 (C.2.2.2.2.2.1 _ (List.mem_of_getElem? (i := 1) rfl)) dX6_at_33 ?_
        obtain ⟨r36_, σ36_, hc_36, hf⟩ := bd_some hf
        refine x_csI C hl.1 hR hS (c_X6_in l G x6.toInt64 0 4 σ23 _ hc_36) gX6_at_X6_in rfl hdS_X6_in ⟨Nat.le_of_ble_eq_true rfl, Nat.le_of_ble_eq_true rfl⟩ rfl (As := [.long x6.toInt64, .long 0, .long 4]) (rest := []) rfl (Nat.le_of_ble_eq_true rfl) ⟨Nat.le_of_ble_eq_true rfl, Nat.le_of_ble_eq_true rfl⟩ dX6_at_36 (fun r36 σ36 H locs hq_36 hR hS => ?_)
        obtain ⟨rfl, rfl⟩ := hq_36
        refine lv_if_ne (tgt := 49) hx hb dX6_at_39 (by decide) (fun c_39 => ?_) (fun c_39 => ?_)
        · replace hf := (if_neg c_39).symm.trans hf
          refine lv_aload_n hx hb dX6_at_49 rfl (lv_at hl 0 rfl) ?_
          refine lv_iload_n hx hb dX6_at_50 rfl (lv_at hl 1 rfl) ?_
          refine lv_iload_n hx hb dX6_at_51 rfl (lv_at hl 2 rfl) ?_
          refine lv_iload_n hx hb dX6_at_52 rfl (lv_at hl 3 rfl) ?_
          refine lv_iload hx hb dX6_at_53 (lv_at hl 4 rfl) ?_
          obtain ⟨r55_, σ55_, hc_55, hf⟩ := bd_some hf
          refine x_cvI C hl.1 hR hS (c_X6_runNow l G x1 x2 x3 x4 σ36 _ hc_55) gX6_at_X6_runNow rfl hdV_X6_runNow ⟨Nat.le_of_ble_eq_true rfl, Nat.le_of_ble_eq_true rfl⟩ (by decide) (cz5 rfl) rfl rfl (As := [.int x1, .int x2, .int x3, .int x4]) (rest := []) rfl (Nat.le_of_ble_eq_true rfl) ⟨Nat.le_of_ble_eq_true rfl, Nat.le_of_ble_eq_true rfl⟩ dX6_at_55 (fun r55 σ55 H locs hq_55 hR hS => ?_)
          obtain ⟨rfl, rfl⟩ := hq_55
          refine lv_istore (lv' := [(7, .int r55), (0, .ref (G.2.1 75)), (1, .int x1), (2, .int x2), (3, .int x3), (4, .int x4), (5, .int x5), (6, .int x6)]) hx hb dX6_at_58 hl (by decide) rfl (fun ls hl => ?_)
          refine lv_iload hx hb dX6_at_60 (lv_at hl 7 rfl) ?_
          by_cases c_62_0 : x6 = 0
          · replace hf := (if_pos c_62_0).symm.trans hf
            refine x_tbl (tgt := 92) (off := 30) hx hb c_62_0 dX6_at_62 (by decide) (by decide) (by decide) (by decide) ?_
            refine lv_aload_n hx hb dX6_at_92 rfl (lv_at hl 1 rfl) ?_
            refine x_get C hR inX6 75 (by decide) (cz5 rfl) rfl 7 (by decide) 2 rfl (.ref (G.2.1 81)) rfl dX6_at_93 ?_
            refine lv_iload hx hb dX6_at_96 (lv_at hl 6 rfl) ?_
            obtain ⟨z_98, hf⟩ := gd_some hf
            refine x_iald C hR 81 rfl z_98 (n := x5.toNatClampNeg) rfl (sA σ55 81 x5.toNatClampNeg) rfl dX6_at_98 ?_
            obtain rfl := Option.some.inj hf
            exact x_iret C hR hS dX6_at_99 ⟨rfl, rfl⟩
          · replace hf := (if_neg c_62_0).symm.trans hf
            by_cases c_62_1 : x6 = 1
            · replace hf := (if_pos c_62_1).symm.trans hf
              refine x_tbl (tgt := 100) (off := 38) hx hb c_62_1 dX6_at_62 (by decide) (by decide) (by decide) (by decide) ?_
              refine lv_aload_n hx hb dX6_at_100 rfl (lv_at hl 1 rfl) ?_
              refine x_get C hR inX6 75 (by decide) (cz5 rfl) rfl 8 (by decide) 3 rfl (.ref (G.2.1 82)) rfl dX6_at_101 ?_
              refine lv_iload hx hb dX6_at_104 (lv_at hl 6 rfl) ?_
              obtain ⟨z_106, hf⟩ := gd_some hf
              refine x_iald C hR 82 rfl z_106 (n := x5.toNatClampNeg) rfl (sA σ55 82 x5.toNatClampNeg) rfl dX6_at_106 ?_
              obtain rfl := Option.some.inj hf
              exact x_iret C hR hS dX6_at_107 ⟨rfl, rfl⟩
            · replace hf := (if_neg c_62_1).symm.trans hf
              by_cases c_62_2 : x6 = 2
              · replace hf := (if_pos c_62_2).symm.trans hf
                refine x_tbl (tgt := 108) (off := 46) hx hb c_62_2 dX6_at_62 (by decide) (by decide) (by decide) (by decide) ?_
                refine lv_aload_n hx hb dX6_at_108 rfl (lv_at hl 1 rfl) ?_
                refine x_get C hR inX6 75 (by decide) (cz5 rfl) rfl 9 (by decide) 4 rfl (.ref (G.2.1 83)) rfl dX6_at_109 ?_
                refine lv_iload hx hb dX6_at_112 (lv_at hl 6 rfl) ?_
                obtain ⟨z_114, hf⟩ := gd_some hf
                refine x_iald C hR 83 rfl z_114 (n := x5.toNatClampNeg) rfl (sA σ55 83 x5.toNatClampNeg) rfl dX6_at_114 ?_
                obtain rfl := Option.some.inj hf
                exact x_iret C hR hS dX6_at_115 ⟨rfl, rfl⟩
              · replace hf := (if_neg c_62_2).symm.trans hf
                by_cases c_62_3 : x6 = 3
                · replace hf := (if_pos c_62_3).symm.trans hf
                  refine x_tbl (tgt := 116) (off := 54) hx hb c_62_3 dX6_at_62 (by decide) (by decide) (by decide) (by decide) ?_
                  refine lv_aload_n hx hb dX6_at_116 rfl (lv_at hl 1 rfl) ?_
                  refine x_get C hR inX6 75 (by decide) (cz5 rfl) rfl 10 (by decide) 5 rfl (.ref (G.2.1 84)) rfl dX6_at_117 ?_
                  refine lv_iload hx hb dX6_at_120 (lv_at hl 6 rfl) ?_
                  obtain ⟨z_122, hf⟩ := gd_some hf
                  refine x_iald C hR 84 rfl z_122 (n := x5.toNatClampNeg) rfl (sA σ55 84 x5.toNatClampNeg) rfl dX6_at_122 ?_
                  obtain rfl := Option.some.inj hf
                  exact x_iret C hR hS dX6_at_123 ⟨rfl, rfl⟩
                · replace hf := (if_neg c_62_3).symm.trans hf
                  have n_62_0 : Int32.toInt x6 ≠ 0 := x_ne c_62_0
                  have n_62_1 : Int32.toInt x6 ≠ 1 := x_ne c_62_1
                  have n_62_2 : Int32.toInt x6 ≠ 2 := x_ne c_62_2
                  have n_62_3 : Int32.toInt x6 ≠ 3 := x_ne c_62_3
                  refine lv_tableOut (tgt := 124) hx hb dX6_at_62 (by omega) (by decide) ?_
                  refine lv_aload_n hx hb dX6_at_124 rfl (lv_at hl 1 rfl) ?_
                  refine x_get C hR inX6 75 (by decide) (cz5 rfl) rfl 11 (by decide) 6 rfl (.ref (G.2.1 85)) rfl dX6_at_125 ?_
                  refine lv_iload hx hb dX6_at_128 (lv_at hl 6 rfl) ?_
                  obtain ⟨z_130, hf⟩ := gd_some hf
                  refine x_iald C hR 85 rfl z_130 (n := x5.toNatClampNeg) rfl (sA σ55 85 x5.toNatClampNeg) rfl dX6_at_130 ?_
                  obtain rfl := Option.some.inj hf
                  exact x_iret C hR hS dX6_at_131 ⟨rfl, rfl⟩
        · replace hf := (if_pos c_39).symm.trans hf
          refine lv_aload_n hx hb dX6_at_42 rfl (lv_at hl 0 rfl) ?_
          refine lv_bipush (v := (-2)) hx hb dX6_at_43 (by decide) ?_
          obtain ⟨r45_, σ45_, hc_45, hf⟩ := bd_some hf
          refine x_cvI C hl.1 hR hS (c_X6_bad l G (-2) σ36 _ hc_45) gX6_at_X6_bad rfl hdV_X6_bad ⟨Nat.le_of_ble_eq_true rfl, Nat.le_of_ble_eq_true rfl⟩ (by decide) (cz5 rfl) rfl rfl (As := [.int (-2)]) (rest := []) rfl (Nat.le_of_ble_eq_true rfl) ⟨Nat.le_of_ble_eq_true rfl, Nat.le_of_ble_eq_true rfl⟩ dX6_at_45 (fun r45 σ45 H locs hq_45 hR hS => ?_)
          obtain ⟨rfl, rfl⟩ := hq_45
          obtain rfl := Option.some.inj hf
          exact x_iret C hR hS dX6_at_48 ⟨rfl, rfl⟩
theorem hdV_X6_fewestBy : yX6_fewestBy.cls = RX6 ∧ yX6_fewestBy.cls ≠ "java/lang/invoke/MethodHandle" ∧ yX6_fewestBy.cls ≠ "java/lang/invoke/VarHandle" ∧ (parseMethodDescriptor yX6_fewestBy.desc).map (fun d => d.parameters.length) = some 3 := by decide +kernel
def f_X6_fewestBy_59 (rc7 : Int32 → Int32 → Int32 → Int32 → Int32 → St → Option (Int32 × St)) (x1 : Int32) (x2 : Int32) (x3 : Int32) (x5 : Int32) (t0 : Int32) (σ : St) : Option (Int32 × St) :=
  rc7 x1 x2 x3 t0 (x5 + 1) σ
def f_X6_fewestBy_42 (rc7 : Int32 → Int32 → Int32 → Int32 → Int32 → St → Option (Int32 × St)) (x1 : Int32) (x2 : Int32) (x3 : Int32) (x4 : Int32) (x5 : Int32) (x6 : Int32) (t0 : Int32) (σ : St) : Option (Int32 × St) :=
  (if x4 ≤ x6 then f_X6_fewestBy_59 rc7 x1 x2 x3 x5 x4 (pI σ 75 13 t0) else f_X6_fewestBy_59 rc7 x1 x2 x3 x5 x6 (pI σ 75 13 t0))
def f_X6_fewestBy_7 : Nat → Int32 → Int32 → Int32 → Int32 → Int32 → St → Option (Int32 × St)
  | 0, _, _, _, _, _, _ => none
  | n + 1, x1, x2, x3, x4, x5, σ => (if 10 ≤ x5 then some (x4, σ) else bd (f_X6_runNow x1 x2 x5 x3 σ) (fun r20 σ20 => (if x4 ≤ r20 then f_X6_fewestBy_42 (f_X6_fewestBy_7 n) x1 x2 x3 x4 x5 r20 (sI σ20 75 13) σ20 else f_X6_fewestBy_42 (f_X6_fewestBy_7 n) x1 x2 x3 x4 x5 r20 x5 σ20)))
def f_X6_fewestBy (x1 : Int32) (x2 : Int32) (x3 : Int32) (σ : St) : Option (Int32 × St) :=
  f_X6_fewestBy_7 FU x1 x2 x3 1000000 1 σ
set_option maxHeartbeats 4000000 in
set_option maxRecDepth 100000 in
theorem w_X6_fewestBy_59 {p : Program} {l : Launch} {e : Env} {s : State} {m : MethodId} {args : Array Value} {below : List Frame} {meth : Method} {c : Code} {G : GG} (C : Cx p s m args meth c cX6_fewestBy RX6 wsX6_fewestBy (some .int) 7 G) {res : Int32 × St} {rc7 : Int32 → Int32 → Int32 → Int32 → Int32 → St → Option (Int32 × St)} (hrc7 : ∀ (x1 : Int32) (x2 : Int32) (x3 : Int32) (x4 : Int32) (x5 : Int32) (σ : St), rc7 x1 x2 x3 x4 x5 σ = some res → WC p l e 4 s m args below meth c G (QI G res) 7 7 [(0, .ref (G.2.1 75)), (1, .int x1), (2, .int x2), (3, .int x3), (4, .int x4), (5, .int x5)] [] σ) : ∀ (x1 : Int32) (x2 : Int32) (x3 : Int32) (x5 : Int32) (t0 : Int32) (σ : St), f_X6_fewestBy_59 rc7 x1 x2 x3 x5 t0 σ = some res → WC p l e 4 s m args below meth c G (QI G res) 7 59 [(0, .ref (G.2.1 75)), (1, .int x1), (2, .int x2), (3, .int x3), (5, .int x5)] [.int t0] σ := by
  have hx := C.1
  have hb := C.2.1
  have inX6 : ∀ w ∈ u_ws RX6 TX6 22, w ∈ wsX6_fewestBy := fun w h => List.mem_cons_of_mem _ (List.mem_append_right _ h)
  intro x1 x2 x3 x5 t0 σ hf _ _ _ hR hS hl
  unfold f_X6_fewestBy_59 at hf
  refine lv_istore (lv' := [(4, .int t0), (0, .ref (G.2.1 75)), (1, .int x1), (2, .int x2), (3, .int x3), (5, .int x5)]) hx hb dX6_fewestBy_59 hl (by decide) rfl (fun ls hl => ?_)
  refine lv_iinc (v := x5 + 1) (lv' := [(5, .int (x5 + 1)), (4, .int t0), (0, .ref (G.2.1 75)), (1, .int x1), (2, .int x2), (3, .int x3)]) hx hb dX6_fewestBy_61 hl (k := 5) rfl rfl (by decide) rfl (fun ls hl => ?_)
  refine lv_goto (tgt := 7) hx hb dX6_fewestBy_64 (by decide) ?_
  exact hrc7 x1 x2 x3 t0 (x5 + 1) _ hf _ _ _ hR hS (lv_sub hl [2, 3, 4, 5, 1, 0] rfl)
set_option maxHeartbeats 4000000 in
set_option maxRecDepth 100000 in
theorem w_X6_fewestBy_42 {p : Program} {l : Launch} {e : Env} {s : State} {m : MethodId} {args : Array Value} {below : List Frame} {meth : Method} {c : Code} {G : GG} (C : Cx p s m args meth c cX6_fewestBy RX6 wsX6_fewestBy (some .int) 7 G) {res : Int32 × St} {rc7 : Int32 → Int32 → Int32 → Int32 → Int32 → St → Option (Int32 × St)} (hrc7 : ∀ (x1 : Int32) (x2 : Int32) (x3 : Int32) (x4 : Int32) (x5 : Int32) (σ : St), rc7 x1 x2 x3 x4 x5 σ = some res → WC p l e 4 s m args below meth c G (QI G res) 7 7 [(0, .ref (G.2.1 75)), (1, .int x1), (2, .int x2), (3, .int x3), (4, .int x4), (5, .int x5)] [] σ) : ∀ (x1 : Int32) (x2 : Int32) (x3 : Int32) (x4 : Int32) (x5 : Int32) (x6 : Int32) (t0 : Int32) (σ : St), f_X6_fewestBy_42 rc7 x1 x2 x3 x4 x5 x6 t0 σ = some res → WC p l e 4 s m args below meth c G (QI G res) 7 42 [(0, .ref (G.2.1 75)), (1, .int x1), (2, .int x2), (3, .int x3), (4, .int x4), (5, .int x5), (6, .int x6)] [.int t0, .ref (G.2.1 75)] σ := by
  have hx := C.1
  have hb := C.2.1
  have inX6 : ∀ w ∈ u_ws RX6 TX6 22, w ∈ wsX6_fewestBy := fun w h => List.mem_cons_of_mem _ (List.mem_append_right _ h)
  intro x1 x2 x3 x4 x5 x6 t0 σ hf _ _ _ hR hS hl
  unfold f_X6_fewestBy_42 at hf
  refine x_put (τ := (pI σ 75 13 t0)) C hR hS inX6 tyX6 tyX6_ok nmX6 75 (by decide) (cz5 rfl) rfl 13 (by decide) (pfI5_13 rfl) pI_o 2 rfl rfl rfl rfl (Nat.le_of_ble_eq_true rfl) dX6_fewestBy_42 (fun H locs hR hS => ?_)
  refine lv_iload hx hb dX6_fewestBy_45 (lv_at hl 6 rfl) ?_
  refine lv_iload hx hb dX6_fewestBy_47 (lv_at hl 4 rfl) ?_
  refine lv_icmp_ge (tgt := 57) hx hb dX6_fewestBy_49 (by decide) (fun c_49 => ?_) (fun c_49 => ?_)
  · replace hf := (if_pos c_49).symm.trans hf
    refine lv_iload hx hb dX6_fewestBy_57 (lv_at hl 4 rfl) ?_
    exact w_X6_fewestBy_59 C hrc7 x1 x2 x3 x5 x4 _ hf _ _ _ hR hS (lv_sub hl [0, 1, 2, 3, 5] rfl)
  · replace hf := (if_neg c_49).symm.trans hf
    refine lv_iload hx hb dX6_fewestBy_52 (lv_at hl 6 rfl) ?_
    refine lv_goto (tgt := 59) hx hb dX6_fewestBy_54 (by decide) ?_
    exact w_X6_fewestBy_59 C hrc7 x1 x2 x3 x5 x6 _ hf _ _ _ hR hS (lv_sub hl [0, 1, 2, 3, 5] rfl)
set_option maxHeartbeats 4000000 in
set_option maxRecDepth 100000 in
theorem w_X6_fewestBy_7 {p : Program} {l : Launch} {e : Env} {s : State} {m : MethodId} {args : Array Value} {below : List Frame} {meth : Method} {c : Code} {G : GG} (C : Cx p s m args meth c cX6_fewestBy RX6 wsX6_fewestBy (some .int) 7 G) {res : Int32 × St} : ∀ (n : Nat) (x1 : Int32) (x2 : Int32) (x3 : Int32) (x4 : Int32) (x5 : Int32) (σ : St), f_X6_fewestBy_7 n x1 x2 x3 x4 x5 σ = some res → WC p l e 4 s m args below meth c G (QI G res) 7 7 [(0, .ref (G.2.1 75)), (1, .int x1), (2, .int x2), (3, .int x3), (4, .int x4), (5, .int x5)] [] σ := by
  have hx := C.1
  have hb := C.2.1
  have inX6 : ∀ w ∈ u_ws RX6 TX6 22, w ∈ wsX6_fewestBy := fun w h => List.mem_cons_of_mem _ (List.mem_append_right _ h)
  intro n
  induction n with
  | zero => intro x1 x2 x3 x4 x5 σ hf; cases hf
  | succ n hrc7 =>
    intro x1 x2 x3 x4 x5 σ hf _ _ _ hR hS hl
    unfold f_X6_fewestBy_7 at hf
    refine lv_iload hx hb dX6_fewestBy_7 (lv_at hl 5 rfl) ?_
    refine lv_bipush (v := 10) hx hb dX6_fewestBy_9 (by decide) ?_
    refine lv_icmp_ge (tgt := 67) hx hb dX6_fewestBy_11 (by decide) (fun c_11 => ?_) (fun c_11 => ?_)
    · replace hf := (if_pos c_11).symm.trans hf
      refine lv_iload hx hb dX6_fewestBy_67 (lv_at hl 4 rfl) ?_
      obtain rfl := Option.some.inj hf
      exact x_iret C hR hS dX6_fewestBy_69 ⟨rfl, rfl⟩
    · replace hf := (if_neg c_11).symm.trans hf
      refine lv_aload_n hx hb dX6_fewestBy_14 rfl (lv_at hl 0 rfl) ?_
      refine lv_iload_n hx hb dX6_fewestBy_15 rfl (lv_at hl 1 rfl) ?_
      refine lv_iload_n hx hb dX6_fewestBy_16 rfl (lv_at hl 2 rfl) ?_
      refine lv_iload hx hb dX6_fewestBy_17 (lv_at hl 5 rfl) ?_
      refine lv_iload_n hx hb dX6_fewestBy_19 rfl (lv_at hl 3 rfl) ?_
      obtain ⟨r20_, σ20_, hc_20, hf⟩ := bd_some hf
      refine x_cvI C hl.1 hR hS (c_X6_runNow l G x1 x2 x5 x3 σ _ hc_20) gX6_fewestBy_X6_runNow rfl hdV_X6_runNow ⟨Nat.le_of_ble_eq_true rfl, Nat.le_of_ble_eq_true rfl⟩ (by decide) (cz5 rfl) rfl rfl (As := [.int x1, .int x2, .int x5, .int x3]) (rest := []) rfl (Nat.le_of_ble_eq_true rfl) ⟨Nat.le_of_ble_eq_true rfl, Nat.le_of_ble_eq_true rfl⟩ dX6_fewestBy_20 (fun r20 σ20 H locs hq_20 hR hS => ?_)
      obtain ⟨rfl, rfl⟩ := hq_20
      refine lv_istore (lv' := [(6, .int r20), (0, .ref (G.2.1 75)), (1, .int x1), (2, .int x2), (3, .int x3), (4, .int x4), (5, .int x5)]) hx hb dX6_fewestBy_23 hl (by decide) rfl (fun ls hl => ?_)
      refine lv_aload_n hx hb dX6_fewestBy_25 rfl (lv_at hl 1 rfl) ?_
      refine lv_iload hx hb dX6_fewestBy_26 (lv_at hl 0 rfl) ?_
      refine lv_iload hx hb dX6_fewestBy_28 (lv_at hl 5 rfl) ?_
      refine lv_icmp_ge (tgt := 38) hx hb dX6_fewestBy_30 (by decide) (fun c_30 => ?_) (fun c_30 => ?_)
      · replace hf := (if_pos c_30).symm.trans hf
        refine lv_aload_n hx hb dX6_fewestBy_38 rfl (lv_at hl 1 rfl) ?_
        refine x_get C hR inX6 75 (by decide) (cz5 rfl) rfl 13 (by decide) 2 rfl (.int (sI σ20 75 13)) rfl dX6_fewestBy_39 ?_
        exact w_X6_fewestBy_42 C hrc7 x1 x2 x3 x4 x5 r20 (sI σ20 75 13) _ hf _ _ _ hR hS (lv_sub hl [1, 2, 3, 4, 5, 6, 0] rfl)
      · replace hf := (if_neg c_30).symm.trans hf
        refine lv_iload hx hb dX6_fewestBy_33 (lv_at hl 6 rfl) ?_
        refine lv_goto (tgt := 42) hx hb dX6_fewestBy_35 (by decide) ?_
        exact w_X6_fewestBy_42 C hrc7 x1 x2 x3 x4 x5 r20 x5 _ hf _ _ _ hR hS (lv_sub hl [1, 2, 3, 4, 5, 6, 0] rfl)
set_option maxHeartbeats 4000000 in
set_option maxRecDepth 100000 in
theorem c_X6_fewestBy (l : Launch) (G : GG) (x1 : Int32) (x2 : Int32) (x3 : Int32) (σ : St) (res : Int32 × St) (hf : f_X6_fewestBy x1 x2 x3 σ = some res) : CI l yX6_fewestBy wsX6_fewestBy 4 [.ref (G.2.1 75), .int x1, .int x2, .int x3] G σ (fun r u => r = res.1 ∧ u = res.2) := by
  refine x_ent (ret := (some .int)) cX6_fewestBy 7 (by decide) rfl (Nat.le_of_ble_eq_true rfl) ?_
  intro p e s m below meth c ls C hR hS hl
  have C : Cx p s m [.ref (G.2.1 75), .int x1, .int x2, .int x3].toArray meth c cX6_fewestBy RX6 wsX6_fewestBy (some .int) 7 G := C
  have hx := C.1
  have hb := C.2.1
  have hl : lv_has ls 7 [(0, .ref (G.2.1 75)), (1, .int x1), (2, .int x2), (3, .int x3)] := hl
  have inX6 : ∀ w ∈ u_ws RX6 TX6 22, w ∈ wsX6_fewestBy := fun w h => List.mem_cons_of_mem _ (List.mem_append_right _ h)
  unfold f_X6_fewestBy at hf
  refine lv_ldc (v := 1000000) hx hb C.2.2.2.2.1 (C.2.2.2.2.2.1 _ (List.mem_of_getElem? (i := 1) rfl)) dX6_fewestBy_0 ?_
  refine lv_istore (lv' := [(4, .int 1000000), (0, .ref (G.2.1 75)), (1, .int x1), (2, .int x2), (3, .int x3)]) hx hb dX6_fewestBy_2 hl (by decide) rfl (fun ls hl => ?_)
  refine lv_iconst (v := 1) hx hb dX6_fewestBy_4 (by decide) ?_
  refine lv_istore (lv' := [(5, .int 1), (4, .int 1000000), (0, .ref (G.2.1 75)), (1, .int x1), (2, .int x2), (3, .int x3)]) hx hb dX6_fewestBy_5 hl (by decide) rfl (fun ls hl => ?_)
  exact w_X6_fewestBy_7 C  FU x1 x2 x3 1000000 1 _ hf _ _ _ hR hS (lv_sub hl [2, 3, 4, 5, 1, 0] rfl)
theorem hdV_X6_lead : yX6_lead.cls = RX6 ∧ yX6_lead.cls ≠ "java/lang/invoke/MethodHandle" ∧ yX6_lead.cls ≠ "java/lang/invoke/VarHandle" ∧ (parseMethodDescriptor yX6_lead.desc).map (fun d => d.parameters.length) = some 3 := by decide +kernel
def f_X6_lead (x1 : Int32) (x2 : Int32) (x3 : Int32) (σ : St) : Option (Int32 × St) :=
  bd (f_X6_isDown x1 σ) (fun r1 σ1 => (if r1 = 0 then bd (f_X6_bad (-2) σ1) (fun r32 σ32 => some (r32, σ32)) else bd (f_X6_in x2.toInt64 1 2 σ1) (fun r13 σ13 => (if r13 = 0 then bd (f_X6_bad (-2) σ13) (fun r32 σ32 => some (r32, σ32)) else bd (f_X6_in x3.toInt64 0 1 σ13) (fun r23 σ23 => (if r23 = 0 then bd (f_X6_bad (-2) σ23) (fun r32 σ32 => some (r32, σ32)) else bd (f_X6_fewestBy x1 x2 x3 σ23) (fun r40 σ40 => some (sI σ40 75 13, σ40))))))))
set_option maxHeartbeats 4000000 in
set_option maxRecDepth 100000 in
theorem c_X6_lead (l : Launch) (G : GG) (x1 : Int32) (x2 : Int32) (x3 : Int32) (σ : St) (res : Int32 × St) (hf : f_X6_lead x1 x2 x3 σ = some res) : CI l yX6_lead wsX6_lead 5 [.ref (G.2.1 75), .int x1, .int x2, .int x3] G σ (fun r u => r = res.1 ∧ u = res.2) := by
  refine x_ent (ret := (some .int)) cX6_lead 5 (by decide) rfl (Nat.le_of_ble_eq_true rfl) ?_
  intro p e s m below meth c ls C hR hS hl
  have C : Cx p s m [.ref (G.2.1 75), .int x1, .int x2, .int x3].toArray meth c cX6_lead RX6 wsX6_lead (some .int) 5 G := C
  have hx := C.1
  have hb := C.2.1
  have hl : lv_has ls 5 [(0, .ref (G.2.1 75)), (1, .int x1), (2, .int x2), (3, .int x3)] := hl
  have inX6 : ∀ w ∈ u_ws RX6 TX6 22, w ∈ wsX6_lead := fun w h => List.mem_cons_of_mem _ (List.mem_append_right _ h)
  unfold f_X6_lead at hf
  refine lv_iload_n hx hb dX6_lead_0 rfl (lv_at hl 1 rfl) ?_
  obtain ⟨r1_, σ1_, hc_1, hf⟩ := bd_some hf
  refine x_csI C hl.1 hR hS (c_X6_isDown l G x1 σ _ hc_1) gX6_lead_X6_isDown rfl hdS_X6_isDown ⟨Nat.le_of_ble_eq_true rfl, Nat.le_of_ble_eq_true rfl⟩ rfl (As := [.int x1]) (rest := []) rfl (Nat.le_of_ble_eq_true rfl) ⟨Nat.le_of_ble_eq_true rfl, Nat.le_of_ble_eq_true rfl⟩ dX6_lead_1 (fun r1 σ1 H locs hq_1 hR hS => ?_)
  obtain ⟨rfl, rfl⟩ := hq_1
  refine lv_if_eq (tgt := 29) hx hb dX6_lead_4 (by decide) (fun c_4 => ?_) (fun c_4 => ?_)
  · replace hf := (if_pos c_4).symm.trans hf
    refine lv_aload_n hx hb dX6_lead_29 rfl (lv_at hl 0 rfl) ?_
    refine lv_bipush (v := (-2)) hx hb dX6_lead_30 (by decide) ?_
    obtain ⟨r32_, σ32_, hc_32, hf⟩ := bd_some hf
    refine x_cvI C hl.1 hR hS (c_X6_bad l G (-2) σ1 _ hc_32) gX6_lead_X6_bad rfl hdV_X6_bad ⟨Nat.le_of_ble_eq_true rfl, Nat.le_of_ble_eq_true rfl⟩ (by decide) (cz5 rfl) rfl rfl (As := [.int (-2)]) (rest := []) rfl (Nat.le_of_ble_eq_true rfl) ⟨Nat.le_of_ble_eq_true rfl, Nat.le_of_ble_eq_true rfl⟩ dX6_lead_32 (fun r32 σ32 H locs hq_32 hR hS => ?_)
    obtain ⟨rfl, rfl⟩ := hq_32
    obtain rfl := Option.some.inj hf
    exact x_iret C hR hS dX6_lead_35 ⟨rfl, rfl⟩
  · replace hf := (if_neg c_4).symm.trans hf
    refine lv_iload_n hx hb dX6_lead_7 rfl (lv_at hl 2 rfl) ?_
    refine lv_i2l (v := x2.toInt64) hx hb dX6_lead_8 rfl ?_
    refine lv_lconst (v := 1) hx hb dX6_lead_9 (by decide) ?_
    refine lv_ldc2 (v := 2) hx hb C.2.2.2.2.1 (C.2.2.2.2.2.1 _ (List.mem_of_getElem? (i := 1) rfl)) dX6_lead_10 ?_
    obtain ⟨r13_, σ13_, hc_13, hf⟩ := bd_some hf
    refine x_csI C hl.1 hR hS (c_X6_in l G x2.toInt64 1 2 σ1 _ hc_13) gX6_lead_X6_in rfl hdS_X6_in ⟨Nat.le_of_ble_eq_true rfl, Nat.le_of_ble_eq_true rfl⟩ rfl (As := [.long x2.toInt64, .long 1, .long 2]) (rest := []) rfl (Nat.le_of_ble_eq_true rfl) ⟨Nat.le_of_ble_eq_true rfl, Nat.le_of_ble_eq_true rfl⟩ dX6_lead_13 (fun r13 σ13 H locs hq_13 hR hS => ?_)
    obtain ⟨rfl, rfl⟩ := hq_13
    refine lv_if_eq (tgt := 29) hx hb dX6_lead_16 (by decide) (fun c_16 => ?_) (fun c_16 => ?_)
    · replace hf := (if_pos c_16).symm.trans hf
      refine lv_aload_n hx hb dX6_lead_29 rfl (lv_at hl 0 rfl) ?_
      refine lv_bipush (v := (-2)) hx hb dX6_lead_30 (by decide) ?_
      obtain ⟨r32_, σ32_, hc_32, hf⟩ := bd_some hf
      refine x_cvI C hl.1 hR hS (c_X6_bad l G (-2) σ13 _ hc_32) gX6_lead_X6_bad rfl hdV_X6_bad ⟨Nat.le_of_ble_eq_true rfl, Nat.le_of_ble_eq_true rfl⟩ (by decide) (cz5 rfl) rfl rfl (As := [.int (-2)]) (rest := []) rfl (Nat.le_of_ble_eq_true rfl) ⟨Nat.le_of_ble_eq_true rfl, Nat.le_of_ble_eq_true rfl⟩ dX6_lead_32 (fun r32 σ32 H locs hq_32 hR hS => ?_)
      obtain ⟨rfl, rfl⟩ := hq_32
      obtain rfl := Option.some.inj hf
      exact x_iret C hR hS dX6_lead_35 ⟨rfl, rfl⟩
    · replace hf := (if_neg c_16).symm.trans hf
      refine lv_iload_n hx hb dX6_lead_19 rfl (lv_at hl 3 rfl) ?_
      refine lv_i2l (v := x3.toInt64) hx hb dX6_lead_20 rfl ?_
      refine lv_lconst (v := 0) hx hb dX6_lead_21 (by decide) ?_
      refine lv_lconst (v := 1) hx hb dX6_lead_22 (by decide) ?_
      obtain ⟨r23_, σ23_, hc_23, hf⟩ := bd_some hf
      refine x_csI C hl.1 hR hS (c_X6_in l G x3.toInt64 0 1 σ13 _ hc_23) gX6_lead_X6_in rfl hdS_X6_in ⟨Nat.le_of_ble_eq_true rfl, Nat.le_of_ble_eq_true rfl⟩ rfl (As := [.long x3.toInt64, .long 0, .long 1]) (rest := []) rfl (Nat.le_of_ble_eq_true rfl) ⟨Nat.le_of_ble_eq_true rfl, Nat.le_of_ble_eq_true rfl⟩ dX6_lead_23 (fun r23 σ23 H locs hq_23 hR hS => ?_)
      obtain ⟨rfl, rfl⟩ := hq_23
      refine lv_if_ne (tgt := 36) hx hb dX6_lead_26 (by decide) (fun c_26 => ?_) (fun c_26 => ?_)
      · replace hf := (if_neg c_26).symm.trans hf
        refine lv_aload_n hx hb dX6_lead_36 rfl (lv_at hl 0 rfl) ?_
        refine lv_iload_n hx hb dX6_lead_37 rfl (lv_at hl 1 rfl) ?_
        refine lv_iload_n hx hb dX6_lead_38 rfl (lv_at hl 2 rfl) ?_
        refine lv_iload_n hx hb dX6_lead_39 rfl (lv_at hl 3 rfl) ?_
        obtain ⟨r40_, σ40_, hc_40, hf⟩ := bd_some hf
        refine x_cvI C hl.1 hR hS (c_X6_fewestBy l G x1 x2 x3 σ23 _ hc_40) gX6_lead_X6_fewestBy rfl hdV_X6_fewestBy ⟨Nat.le_of_ble_eq_true rfl, Nat.le_of_ble_eq_true rfl⟩ (by decide) (cz5 rfl) rfl rfl (As := [.int x1, .int x2, .int x3]) (rest := []) rfl (Nat.le_of_ble_eq_true rfl) ⟨Nat.le_of_ble_eq_true rfl, Nat.le_of_ble_eq_true rfl⟩ dX6_lead_40 (fun r40 σ40 H locs hq_40 hR hS => ?_)
        obtain ⟨rfl, rfl⟩ := hq_40
        refine lv_istore (lv' := [(4, .int r40), (0, .ref (G.2.1 75)), (1, .int x1), (2, .int x2), (3, .int x3)]) hx hb dX6_lead_43 hl (by decide) rfl (fun ls hl => ?_)
        refine lv_aload_n hx hb dX6_lead_45 rfl (lv_at hl 1 rfl) ?_
        refine x_get C hR inX6 75 (by decide) (cz5 rfl) rfl 13 (by decide) 2 rfl (.int (sI σ40 75 13)) rfl dX6_lead_46 ?_
        obtain rfl := Option.some.inj hf
        exact x_iret C hR hS dX6_lead_49 ⟨rfl, rfl⟩
      · replace hf := (if_pos c_26).symm.trans hf
        refine lv_aload_n hx hb dX6_lead_29 rfl (lv_at hl 0 rfl) ?_
        refine lv_bipush (v := (-2)) hx hb dX6_lead_30 (by decide) ?_
        obtain ⟨r32_, σ32_, hc_32, hf⟩ := bd_some hf
        refine x_cvI C hl.1 hR hS (c_X6_bad l G (-2) σ23 _ hc_32) gX6_lead_X6_bad rfl hdV_X6_bad ⟨Nat.le_of_ble_eq_true rfl, Nat.le_of_ble_eq_true rfl⟩ (by decide) (cz5 rfl) rfl rfl (As := [.int (-2)]) (rest := []) rfl (Nat.le_of_ble_eq_true rfl) ⟨Nat.le_of_ble_eq_true rfl, Nat.le_of_ble_eq_true rfl⟩ dX6_lead_32 (fun r32 σ32 H locs hq_32 hR hS => ?_)
        obtain ⟨rfl, rfl⟩ := hq_32
        obtain rfl := Option.some.inj hf
        exact x_iret C hR hS dX6_lead_35 ⟨rfl, rfl⟩
theorem hdV_X6_worth : yX6_worth.cls = RX6 ∧ yX6_worth.cls ≠ "java/lang/invoke/MethodHandle" ∧ yX6_worth.cls ≠ "java/lang/invoke/VarHandle" ∧ (parseMethodDescriptor yX6_worth.desc).map (fun d => d.parameters.length) = some 2 := by decide +kernel
def f_X6_worth (x1 : Int32) (x2 : Int32) (σ : St) : Option (Int32 × St) :=
  bd (f_X6_isDown x1 σ) (fun r1 σ1 => (if r1 = 0 then bd (f_X6_bad (-1000) σ1) (fun r21 σ21 => some (r21, σ21)) else bd (f_X6_in x2.toInt64 0 1 σ1) (fun r11 σ11 => (if r11 = 0 then bd (f_X6_bad (-1000) σ11) (fun r21 σ21 => some (r21, σ21)) else bd (f_X6_fewestBy x1 1 x2 σ11) (fun r29 σ29 => bd (f_X6_fewestBy x1 2 x2 σ29) (fun r36 σ36 => some (r29 - r36, σ36)))))))
set_option maxHeartbeats 4000000 in
set_option maxRecDepth 100000 in
theorem c_X6_worth (l : Launch) (G : GG) (x1 : Int32) (x2 : Int32) (σ : St) (res : Int32 × St) (hf : f_X6_worth x1 x2 σ = some res) : CI l yX6_worth wsX6_worth 5 [.ref (G.2.1 75), .int x1, .int x2] G σ (fun r u => r = res.1 ∧ u = res.2) := by
  refine x_ent (ret := (some .int)) cX6_worth 3 (by decide) rfl (Nat.le_of_ble_eq_true rfl) ?_
  intro p e s m below meth c ls C hR hS hl
  have C : Cx p s m [.ref (G.2.1 75), .int x1, .int x2].toArray meth c cX6_worth RX6 wsX6_worth (some .int) 3 G := C
  have hx := C.1
  have hb := C.2.1
  have hl : lv_has ls 3 [(0, .ref (G.2.1 75)), (1, .int x1), (2, .int x2)] := hl
  unfold f_X6_worth at hf
  refine lv_iload_n hx hb dX6_worth_0 rfl (lv_at hl 1 rfl) ?_
  obtain ⟨r1_, σ1_, hc_1, hf⟩ := bd_some hf
  refine x_csI C hl.1 hR hS (c_X6_isDown l G x1 σ _ hc_1) gX6_worth_X6_isDown rfl hdS_X6_isDown ⟨Nat.le_of_ble_eq_true rfl, Nat.le_of_ble_eq_true rfl⟩ rfl (As := [.int x1]) (rest := []) rfl (Nat.le_of_ble_eq_true rfl) ⟨Nat.le_of_ble_eq_true rfl, Nat.le_of_ble_eq_true rfl⟩ dX6_worth_1 (fun r1 σ1 H locs hq_1 hR hS => ?_)
  obtain ⟨rfl, rfl⟩ := hq_1
  refine lv_if_eq (tgt := 17) hx hb dX6_worth_4 (by decide) (fun c_4 => ?_) (fun c_4 => ?_)
  · replace hf := (if_pos c_4).symm.trans hf
    refine lv_aload_n hx hb dX6_worth_17 rfl (lv_at hl 0 rfl) ?_
    refine lv_sipush (v := (-1000)) hx hb dX6_worth_18 (by decide) ?_
    obtain ⟨r21_, σ21_, hc_21, hf⟩ := bd_some hf
    refine x_cvI C hl.1 hR hS (c_X6_bad l G (-1000) σ1 _ hc_21) gX6_worth_X6_bad rfl hdV_X6_bad ⟨Nat.le_of_ble_eq_true rfl, Nat.le_of_ble_eq_true rfl⟩ (by decide) (cz5 rfl) rfl rfl (As := [.int (-1000)]) (rest := []) rfl (Nat.le_of_ble_eq_true rfl) ⟨Nat.le_of_ble_eq_true rfl, Nat.le_of_ble_eq_true rfl⟩ dX6_worth_21 (fun r21 σ21 H locs hq_21 hR hS => ?_)
    obtain ⟨rfl, rfl⟩ := hq_21
    obtain rfl := Option.some.inj hf
    exact x_iret C hR hS dX6_worth_24 ⟨rfl, rfl⟩
  · replace hf := (if_neg c_4).symm.trans hf
    refine lv_iload_n hx hb dX6_worth_7 rfl (lv_at hl 2 rfl) ?_
    refine lv_i2l (v := x2.toInt64) hx hb dX6_worth_8 rfl ?_
    refine lv_lconst (v := 0) hx hb dX6_worth_9 (by decide) ?_
    refine lv_lconst (v := 1) hx hb dX6_worth_10 (by decide) ?_
    obtain ⟨r11_, σ11_, hc_11, hf⟩ := bd_some hf
    refine x_csI C hl.1 hR hS (c_X6_in l G x2.toInt64 0 1 σ1 _ hc_11) gX6_worth_X6_in rfl hdS_X6_in ⟨Nat.le_of_ble_eq_true rfl, Nat.le_of_ble_eq_true rfl⟩ rfl (As := [.long x2.toInt64, .long 0, .long 1]) (rest := []) rfl (Nat.le_of_ble_eq_true rfl) ⟨Nat.le_of_ble_eq_true rfl, Nat.le_of_ble_eq_true rfl⟩ dX6_worth_11 (fun r11 σ11 H locs hq_11 hR hS => ?_)
    obtain ⟨rfl, rfl⟩ := hq_11
    refine lv_if_ne (tgt := 25) hx hb dX6_worth_14 (by decide) (fun c_14 => ?_) (fun c_14 => ?_)
    · replace hf := (if_neg c_14).symm.trans hf
      refine lv_aload_n hx hb dX6_worth_25 rfl (lv_at hl 0 rfl) ?_
      refine lv_iload_n hx hb dX6_worth_26 rfl (lv_at hl 1 rfl) ?_
      refine lv_iconst (v := 1) hx hb dX6_worth_27 (by decide) ?_
      refine lv_iload_n hx hb dX6_worth_28 rfl (lv_at hl 2 rfl) ?_
      obtain ⟨r29_, σ29_, hc_29, hf⟩ := bd_some hf
      refine x_cvI C hl.1 hR hS (c_X6_fewestBy l G x1 1 x2 σ11 _ hc_29) gX6_worth_X6_fewestBy rfl hdV_X6_fewestBy ⟨Nat.le_of_ble_eq_true rfl, Nat.le_of_ble_eq_true rfl⟩ (by decide) (cz5 rfl) rfl rfl (As := [.int x1, .int 1, .int x2]) (rest := []) rfl (Nat.le_of_ble_eq_true rfl) ⟨Nat.le_of_ble_eq_true rfl, Nat.le_of_ble_eq_true rfl⟩ dX6_worth_29 (fun r29 σ29 H locs hq_29 hR hS => ?_)
      obtain ⟨rfl, rfl⟩ := hq_29
      refine lv_aload_n hx hb dX6_worth_32 rfl (lv_at hl 0 rfl) ?_
      refine lv_iload_n hx hb dX6_worth_33 rfl (lv_at hl 1 rfl) ?_
      refine lv_iconst (v := 2) hx hb dX6_worth_34 (by decide) ?_
      refine lv_iload_n hx hb dX6_worth_35 rfl (lv_at hl 2 rfl) ?_
      obtain ⟨r36_, σ36_, hc_36, hf⟩ := bd_some hf
      refine x_cvI C hl.1 hR hS (c_X6_fewestBy l G x1 2 x2 σ29 _ hc_36) gX6_worth_X6_fewestBy rfl hdV_X6_fewestBy ⟨Nat.le_of_ble_eq_true rfl, Nat.le_of_ble_eq_true rfl⟩ (by decide) (cz5 rfl) rfl rfl (As := [.int x1, .int 2, .int x2]) (rest := [.int r29]) rfl (Nat.le_of_ble_eq_true rfl) ⟨Nat.le_of_ble_eq_true rfl, Nat.le_of_ble_eq_true rfl⟩ dX6_worth_36 (fun r36 σ36 H locs hq_36 hR hS => ?_)
      obtain ⟨rfl, rfl⟩ := hq_36
      refine lv_isub hx hb dX6_worth_39 ?_
      obtain rfl := Option.some.inj hf
      exact x_iret C hR hS dX6_worth_40 ⟨rfl, rfl⟩
    · replace hf := (if_pos c_14).symm.trans hf
      refine lv_aload_n hx hb dX6_worth_17 rfl (lv_at hl 0 rfl) ?_
      refine lv_sipush (v := (-1000)) hx hb dX6_worth_18 (by decide) ?_
      obtain ⟨r21_, σ21_, hc_21, hf⟩ := bd_some hf
      refine x_cvI C hl.1 hR hS (c_X6_bad l G (-1000) σ11 _ hc_21) gX6_worth_X6_bad rfl hdV_X6_bad ⟨Nat.le_of_ble_eq_true rfl, Nat.le_of_ble_eq_true rfl⟩ (by decide) (cz5 rfl) rfl rfl (As := [.int (-1000)]) (rest := []) rfl (Nat.le_of_ble_eq_true rfl) ⟨Nat.le_of_ble_eq_true rfl, Nat.le_of_ble_eq_true rfl⟩ dX6_worth_21 (fun r21 σ21 H locs hq_21 hR hS => ?_)
      obtain ⟨rfl, rfl⟩ := hq_21
      obtain rfl := Option.some.inj hf
      exact x_iret C hR hS dX6_worth_24 ⟨rfl, rfl⟩
theorem hdV_X6_strong : yX6_strong.cls = RX6 ∧ yX6_strong.cls ≠ "java/lang/invoke/MethodHandle" ∧ yX6_strong.cls ≠ "java/lang/invoke/VarHandle" ∧ (parseMethodDescriptor yX6_strong.desc).map (fun d => d.parameters.length) = some 4 := by decide +kernel
def f_X6_strong_97 (rc37 : Int32 → Int32 → Int32 → Int32 → Int32 → Int32 → Int32 → St → Option (Int32 × St)) (x1 : Int32) (x2 : Int32) (x3 : Int32) (x4 : Int32) (x5 : Int32) (x7 : Int32) (t0 : Int32) (σ : St) : Option (Int32 × St) :=
  rc37 x1 x2 x3 x4 x5 t0 (x7 + 1) σ
def f_X6_strong_81 (rc37 : Int32 → Int32 → Int32 → Int32 → Int32 → Int32 → Int32 → St → Option (Int32 × St)) (x1 : Int32) (x2 : Int32) (x3 : Int32) (x4 : Int32) (x6 : Int32) (x7 : Int32) (x8 : Int32) (t0 : Int32) (σ : St) : Option (Int32 × St) :=
  (if x6 ≤ x8 then f_X6_strong_97 rc37 x1 x2 x3 x4 t0 x7 x6 σ else f_X6_strong_97 rc37 x1 x2 x3 x4 t0 x7 x8 σ)
def f_X6_strong_37 : Nat → Int32 → Int32 → Int32 → Int32 → Int32 → Int32 → Int32 → St → Option (Int32 × St)
  | 0, _, _, _, _, _, _, _, _ => none
  | n + 1, x1, x2, x3, x4, x5, x6, x7, σ => (if 10 ≤ x7 then some (x5, σ) else bv (f_X6_layHand σ) (fun σ45 => bd (f_X6_goRun x1 x2 x3 (2 * x4) (pI σ45 75 12 x7)) (fun r62 σ62 => (if x6 ≤ r62 then f_X6_strong_81 (f_X6_strong_37 n) x1 x2 x3 x4 x6 x7 r62 x5 σ62 else f_X6_strong_81 (f_X6_strong_37 n) x1 x2 x3 x4 x6 x7 r62 x7 σ62))))
def f_X6_strong (x1 : Int32) (x2 : Int32) (x3 : Int32) (x4 : Int32) (σ : St) : Option (Int32 × St) :=
  bd (f_X6_isRun x1 x2 x3 σ) (fun r3 σ3 => (if r3 = 0 then bd (f_X6_bad (-2) σ3) (fun r23 σ23 => some (r23, σ23)) else bd (f_X6_in x4.toInt64 0 1 σ3) (fun r14 σ14 => (if r14 = 0 then bd (f_X6_bad (-2) σ14) (fun r23 σ23 => some (r23, σ23)) else f_X6_strong_37 FU x1 x2 x3 x4 0 1000000 0 σ14))))
set_option maxHeartbeats 4000000 in
set_option maxRecDepth 100000 in
theorem w_X6_strong_97 {p : Program} {l : Launch} {e : Env} {s : State} {m : MethodId} {args : Array Value} {below : List Frame} {meth : Method} {c : Code} {G : GG} (C : Cx p s m args meth c cX6_strong RX6 wsX6_strong (some .int) 9 G) {res : Int32 × St} {rc37 : Int32 → Int32 → Int32 → Int32 → Int32 → Int32 → Int32 → St → Option (Int32 × St)} (hrc37 : ∀ (x1 : Int32) (x2 : Int32) (x3 : Int32) (x4 : Int32) (x5 : Int32) (x6 : Int32) (x7 : Int32) (σ : St), rc37 x1 x2 x3 x4 x5 x6 x7 σ = some res → WC p l e 3 s m args below meth c G (QI G res) 9 37 [(0, .ref (G.2.1 75)), (1, .int x1), (2, .int x2), (3, .int x3), (4, .int x4), (5, .int x5), (6, .int x6), (7, .int x7)] [] σ) : ∀ (x1 : Int32) (x2 : Int32) (x3 : Int32) (x4 : Int32) (x5 : Int32) (x7 : Int32) (t0 : Int32) (σ : St), f_X6_strong_97 rc37 x1 x2 x3 x4 x5 x7 t0 σ = some res → WC p l e 3 s m args below meth c G (QI G res) 9 97 [(0, .ref (G.2.1 75)), (1, .int x1), (2, .int x2), (3, .int x3), (4, .int x4), (5, .int x5), (7, .int x7)] [.int t0] σ := by
  have hx := C.1
  have hb := C.2.1
  have inX6 : ∀ w ∈ u_ws RX6 TX6 22, w ∈ wsX6_strong := fun w h => List.mem_cons_of_mem _ (List.mem_append_right _ h)
  intro x1 x2 x3 x4 x5 x7 t0 σ hf _ _ _ hR hS hl
  unfold f_X6_strong_97 at hf
  refine lv_istore (lv' := [(6, .int t0), (0, .ref (G.2.1 75)), (1, .int x1), (2, .int x2), (3, .int x3), (4, .int x4), (5, .int x5), (7, .int x7)]) hx hb dX6_strong_97 hl (by decide) rfl (fun ls hl => ?_)
  refine lv_iinc (v := x7 + 1) (lv' := [(7, .int (x7 + 1)), (6, .int t0), (0, .ref (G.2.1 75)), (1, .int x1), (2, .int x2), (3, .int x3), (4, .int x4), (5, .int x5)]) hx hb dX6_strong_99 hl (k := 7) rfl rfl (by decide) rfl (fun ls hl => ?_)
  refine lv_goto (tgt := 37) hx hb dX6_strong_102 (by decide) ?_
  exact hrc37 x1 x2 x3 x4 x5 t0 (x7 + 1) _ hf _ _ _ hR hS (lv_sub hl [2, 3, 4, 5, 6, 7, 1, 0] rfl)
set_option maxHeartbeats 4000000 in
set_option maxRecDepth 100000 in
theorem w_X6_strong_81 {p : Program} {l : Launch} {e : Env} {s : State} {m : MethodId} {args : Array Value} {below : List Frame} {meth : Method} {c : Code} {G : GG} (C : Cx p s m args meth c cX6_strong RX6 wsX6_strong (some .int) 9 G) {res : Int32 × St} {rc37 : Int32 → Int32 → Int32 → Int32 → Int32 → Int32 → Int32 → St → Option (Int32 × St)} (hrc37 : ∀ (x1 : Int32) (x2 : Int32) (x3 : Int32) (x4 : Int32) (x5 : Int32) (x6 : Int32) (x7 : Int32) (σ : St), rc37 x1 x2 x3 x4 x5 x6 x7 σ = some res → WC p l e 3 s m args below meth c G (QI G res) 9 37 [(0, .ref (G.2.1 75)), (1, .int x1), (2, .int x2), (3, .int x3), (4, .int x4), (5, .int x5), (6, .int x6), (7, .int x7)] [] σ) : ∀ (x1 : Int32) (x2 : Int32) (x3 : Int32) (x4 : Int32) (x6 : Int32) (x7 : Int32) (x8 : Int32) (t0 : Int32) (σ : St), f_X6_strong_81 rc37 x1 x2 x3 x4 x6 x7 x8 t0 σ = some res → WC p l e 3 s m args below meth c G (QI G res) 9 81 [(0, .ref (G.2.1 75)), (1, .int x1), (2, .int x2), (3, .int x3), (4, .int x4), (6, .int x6), (7, .int x7), (8, .int x8)] [.int t0] σ := by
  have hx := C.1
  have hb := C.2.1
  have inX6 : ∀ w ∈ u_ws RX6 TX6 22, w ∈ wsX6_strong := fun w h => List.mem_cons_of_mem _ (List.mem_append_right _ h)
  intro x1 x2 x3 x4 x6 x7 x8 t0 σ hf _ _ _ hR hS hl
  unfold f_X6_strong_81 at hf
  refine lv_istore (lv' := [(5, .int t0), (0, .ref (G.2.1 75)), (1, .int x1), (2, .int x2), (3, .int x3), (4, .int x4), (6, .int x6), (7, .int x7), (8, .int x8)]) hx hb dX6_strong_81 hl (by decide) rfl (fun ls hl => ?_)
  refine lv_iload hx hb dX6_strong_83 (lv_at hl 8 rfl) ?_
  refine lv_iload hx hb dX6_strong_85 (lv_at hl 6 rfl) ?_
  refine lv_icmp_ge (tgt := 95) hx hb dX6_strong_87 (by decide) (fun c_87 => ?_) (fun c_87 => ?_)
  · replace hf := (if_pos c_87).symm.trans hf
    refine lv_iload hx hb dX6_strong_95 (lv_at hl 6 rfl) ?_
    exact w_X6_strong_97 C hrc37 x1 x2 x3 x4 t0 x7 x6 _ hf _ _ _ hR hS (lv_sub hl [1, 2, 3, 4, 5, 0, 7] rfl)
  · replace hf := (if_neg c_87).symm.trans hf
    refine lv_iload hx hb dX6_strong_90 (lv_at hl 8 rfl) ?_
    refine lv_goto (tgt := 97) hx hb dX6_strong_92 (by decide) ?_
    exact w_X6_strong_97 C hrc37 x1 x2 x3 x4 t0 x7 x8 _ hf _ _ _ hR hS (lv_sub hl [1, 2, 3, 4, 5, 0, 7] rfl)
set_option maxHeartbeats 4000000 in
set_option maxRecDepth 100000 in
theorem w_X6_strong_37 {p : Program} {l : Launch} {e : Env} {s : State} {m : MethodId} {args : Array Value} {below : List Frame} {meth : Method} {c : Code} {G : GG} (C : Cx p s m args meth c cX6_strong RX6 wsX6_strong (some .int) 9 G) {res : Int32 × St} : ∀ (n : Nat) (x1 : Int32) (x2 : Int32) (x3 : Int32) (x4 : Int32) (x5 : Int32) (x6 : Int32) (x7 : Int32) (σ : St), f_X6_strong_37 n x1 x2 x3 x4 x5 x6 x7 σ = some res → WC p l e 3 s m args below meth c G (QI G res) 9 37 [(0, .ref (G.2.1 75)), (1, .int x1), (2, .int x2), (3, .int x3), (4, .int x4), (5, .int x5), (6, .int x6), (7, .int x7)] [] σ := by
  have hx := C.1
  have hb := C.2.1
  have inX6 : ∀ w ∈ u_ws RX6 TX6 22, w ∈ wsX6_strong := fun w h => List.mem_cons_of_mem _ (List.mem_append_right _ h)
  intro n
  induction n with
  | zero => intro x1 x2 x3 x4 x5 x6 x7 σ hf; cases hf
  | succ n hrc37 =>
    intro x1 x2 x3 x4 x5 x6 x7 σ hf _ _ _ hR hS hl
    unfold f_X6_strong_37 at hf
    refine lv_iload hx hb dX6_strong_37 (lv_at hl 7 rfl) ?_
    refine lv_bipush (v := 10) hx hb dX6_strong_39 (by decide) ?_
    refine lv_icmp_ge (tgt := 105) hx hb dX6_strong_41 (by decide) (fun c_41 => ?_) (fun c_41 => ?_)
    · replace hf := (if_pos c_41).symm.trans hf
      refine lv_iload hx hb dX6_strong_105 (lv_at hl 5 rfl) ?_
      obtain rfl := Option.some.inj hf
      exact x_iret C hR hS dX6_strong_107 ⟨rfl, rfl⟩
    · replace hf := (if_neg c_41).symm.trans hf
      refine lv_aload_n hx hb dX6_strong_44 rfl (lv_at hl 0 rfl) ?_
      obtain ⟨σ45_, hc_45, hf⟩ := bv_some hf
      refine x_cvV C hl.1 hR hS (c_X6_layHand l G σ _ hc_45) gX6_strong_X6_layHand rfl hdV_X6_layHand ⟨Nat.le_of_ble_eq_true rfl, Nat.le_of_ble_eq_true rfl⟩ (by decide) (cz5 rfl) rfl rfl (As := []) (rest := []) rfl (Nat.le_of_ble_eq_true rfl) ⟨Nat.le_of_ble_eq_true rfl, Nat.le_of_ble_eq_true rfl⟩ dX6_strong_45 (fun σ45 H locs hq_45 hR hS => ?_)
      subst hq_45
      refine lv_aload_n hx hb dX6_strong_48 rfl (lv_at hl 0 rfl) ?_
      refine lv_iload hx hb dX6_strong_49 (lv_at hl 7 rfl) ?_
      refine x_put (τ := (pI σ45 75 12 x7)) C hR hS inX6 tyX6 tyX6_ok nmX6 75 (by decide) (cz5 rfl) rfl 12 (by decide) (pfI5_12 rfl) pI_o 2 rfl rfl rfl rfl (Nat.le_of_ble_eq_true rfl) dX6_strong_51 (fun H locs hR hS => ?_)
      refine lv_aload_n hx hb dX6_strong_54 rfl (lv_at hl 0 rfl) ?_
      refine lv_iload_n hx hb dX6_strong_55 rfl (lv_at hl 1 rfl) ?_
      refine lv_iload_n hx hb dX6_strong_56 rfl (lv_at hl 2 rfl) ?_
      refine lv_iload_n hx hb dX6_strong_57 rfl (lv_at hl 3 rfl) ?_
      refine lv_iconst (v := 2) hx hb dX6_strong_58 (by decide) ?_
      refine lv_iload hx hb dX6_strong_59 (lv_at hl 4 rfl) ?_
      refine lv_imul hx hb dX6_strong_61 ?_
      obtain ⟨r62_, σ62_, hc_62, hf⟩ := bd_some hf
      refine x_cvI C hl.1 hR hS (c_X6_goRun l G x1 x2 x3 (2 * x4) (pI σ45 75 12 x7) _ hc_62) gX6_strong_X6_goRun rfl hdV_X6_goRun ⟨Nat.le_of_ble_eq_true rfl, Nat.le_of_ble_eq_true rfl⟩ (by decide) (cz5 rfl) rfl rfl (As := [.int x1, .int x2, .int x3, .int (2 * x4)]) (rest := []) rfl (Nat.le_of_ble_eq_true rfl) ⟨Nat.le_of_ble_eq_true rfl, Nat.le_of_ble_eq_true rfl⟩ dX6_strong_62 (fun r62 σ62 H locs hq_62 hR hS => ?_)
      obtain ⟨rfl, rfl⟩ := hq_62
      refine lv_istore (lv' := [(8, .int r62), (0, .ref (G.2.1 75)), (1, .int x1), (2, .int x2), (3, .int x3), (4, .int x4), (5, .int x5), (6, .int x6), (7, .int x7)]) hx hb dX6_strong_65 hl (by decide) rfl (fun ls hl => ?_)
      refine lv_iload hx hb dX6_strong_67 (lv_at hl 0 rfl) ?_
      refine lv_iload hx hb dX6_strong_69 (lv_at hl 7 rfl) ?_
      refine lv_icmp_ge (tgt := 79) hx hb dX6_strong_71 (by decide) (fun c_71 => ?_) (fun c_71 => ?_)
      · replace hf := (if_pos c_71).symm.trans hf
        refine lv_iload hx hb dX6_strong_79 (lv_at hl 6 rfl) ?_
        exact w_X6_strong_81 C hrc37 x1 x2 x3 x4 x6 x7 r62 x5 _ hf _ _ _ hR hS (lv_sub hl [1, 2, 3, 4, 5, 7, 8, 0] rfl)
      · replace hf := (if_neg c_71).symm.trans hf
        refine lv_iload hx hb dX6_strong_74 (lv_at hl 8 rfl) ?_
        refine lv_goto (tgt := 81) hx hb dX6_strong_76 (by decide) ?_
        exact w_X6_strong_81 C hrc37 x1 x2 x3 x4 x6 x7 r62 x7 _ hf _ _ _ hR hS (lv_sub hl [1, 2, 3, 4, 5, 7, 8, 0] rfl)
set_option maxHeartbeats 4000000 in
set_option maxRecDepth 100000 in
theorem c_X6_strong (l : Launch) (G : GG) (x1 : Int32) (x2 : Int32) (x3 : Int32) (x4 : Int32) (σ : St) (res : Int32 × St) (hf : f_X6_strong x1 x2 x3 x4 σ = some res) : CI l yX6_strong wsX6_strong 3 [.ref (G.2.1 75), .int x1, .int x2, .int x3, .int x4] G σ (fun r u => r = res.1 ∧ u = res.2) := by
  refine x_ent (ret := (some .int)) cX6_strong 9 (by decide) rfl (Nat.le_of_ble_eq_true rfl) ?_
  intro p e s m below meth c ls C hR hS hl
  have C : Cx p s m [.ref (G.2.1 75), .int x1, .int x2, .int x3, .int x4].toArray meth c cX6_strong RX6 wsX6_strong (some .int) 9 G := C
  have hx := C.1
  have hb := C.2.1
  have hl : lv_has ls 9 [(0, .ref (G.2.1 75)), (1, .int x1), (2, .int x2), (3, .int x3), (4, .int x4)] := hl
  have inX6 : ∀ w ∈ u_ws RX6 TX6 22, w ∈ wsX6_strong := fun w h => List.mem_cons_of_mem _ (List.mem_append_right _ h)
  unfold f_X6_strong at hf
  refine lv_iload_n hx hb dX6_strong_0 rfl (lv_at hl 1 rfl) ?_
  refine lv_iload_n hx hb dX6_strong_1 rfl (lv_at hl 2 rfl) ?_
  refine lv_iload_n hx hb dX6_strong_2 rfl (lv_at hl 3 rfl) ?_
  obtain ⟨r3_, σ3_, hc_3, hf⟩ := bd_some hf
  refine x_csI C hl.1 hR hS (c_X6_isRun l G x1 x2 x3 σ _ hc_3) gX6_strong_X6_isRun rfl hdS_X6_isRun ⟨Nat.le_of_ble_eq_true rfl, Nat.le_of_ble_eq_true rfl⟩ rfl (As := [.int x1, .int x2, .int x3]) (rest := []) rfl (Nat.le_of_ble_eq_true rfl) ⟨Nat.le_of_ble_eq_true rfl, Nat.le_of_ble_eq_true rfl⟩ dX6_strong_3 (fun r3 σ3 H locs hq_3 hR hS => ?_)
  obtain ⟨rfl, rfl⟩ := hq_3
  refine lv_if_eq (tgt := 20) hx hb dX6_strong_6 (by decide) (fun c_6 => ?_) (fun c_6 => ?_)
  · replace hf := (if_pos c_6).symm.trans hf
    refine lv_aload_n hx hb dX6_strong_20 rfl (lv_at hl 0 rfl) ?_
    refine lv_bipush (v := (-2)) hx hb dX6_strong_21 (by decide) ?_
    obtain ⟨r23_, σ23_, hc_23, hf⟩ := bd_some hf
    refine x_cvI C hl.1 hR hS (c_X6_bad l G (-2) σ3 _ hc_23) gX6_strong_X6_bad rfl hdV_X6_bad ⟨Nat.le_of_ble_eq_true rfl, Nat.le_of_ble_eq_true rfl⟩ (by decide) (cz5 rfl) rfl rfl (As := [.int (-2)]) (rest := []) rfl (Nat.le_of_ble_eq_true rfl) ⟨Nat.le_of_ble_eq_true rfl, Nat.le_of_ble_eq_true rfl⟩ dX6_strong_23 (fun r23 σ23 H locs hq_23 hR hS => ?_)
    obtain ⟨rfl, rfl⟩ := hq_23
    obtain rfl := Option.some.inj hf
    exact x_iret C hR hS dX6_strong_26 ⟨rfl, rfl⟩
  · replace hf := (if_neg c_6).symm.trans hf
    refine lv_iload hx hb dX6_strong_9 (lv_at hl 4 rfl) ?_
    refine lv_i2l (v := x4.toInt64) hx hb dX6_strong_11 rfl ?_
    refine lv_lconst (v := 0) hx hb dX6_strong_12 (by decide) ?_
    refine lv_lconst (v := 1) hx hb dX6_strong_13 (by decide) ?_
    obtain ⟨r14_, σ14_, hc_14, hf⟩ := bd_some hf
    refine x_csI C hl.1 hR hS (c_X6_in l G x4.toInt64 0 1 σ3 _ hc_14) gX6_strong_X6_in rfl hdS_X6_in ⟨Nat.le_of_ble_eq_true rfl, Nat.le_of_ble_eq_true rfl⟩ rfl (As := [.long x4.toInt64, .long 0, .long 1]) (rest := []) rfl (Nat.le_of_ble_eq_true rfl) ⟨Nat.le_of_ble_eq_true rfl, Nat.le_of_ble_eq_true rfl⟩ dX6_strong_14 (fun r14 σ14 H locs hq_14 hR hS => ?_)
    obtain ⟨rfl, rfl⟩ := hq_14
    refine lv_if_ne (tgt := 27) hx hb dX6_strong_17 (by decide) (fun c_17 => ?_) (fun c_17 => ?_)
    · replace hf := (if_neg c_17).symm.trans hf
      refine lv_iconst (v := 0) hx hb dX6_strong_27 (by decide) ?_
      refine lv_istore (lv' := [(5, .int 0), (0, .ref (G.2.1 75)), (1, .int x1), (2, .int x2), (3, .int x3), (4, .int x4)]) hx hb dX6_strong_28 hl (by decide) rfl (fun ls hl => ?_)
      refine lv_ldc (v := 1000000) hx hb C.2.2.2.2.1 (C.2.2.2.2.2.1 _ (List.mem_of_getElem? (i := 1) rfl)) dX6_strong_30 ?_
      refine lv_istore (lv' := [(6, .int 1000000), (5, .int 0), (0, .ref (G.2.1 75)), (1, .int x1), (2, .int x2), (3, .int x3), (4, .int x4)]) hx hb dX6_strong_32 hl (by decide) rfl (fun ls hl => ?_)
      refine lv_iconst (v := 0) hx hb dX6_strong_34 (by decide) ?_
      refine lv_istore (lv' := [(7, .int 0), (6, .int 1000000), (5, .int 0), (0, .ref (G.2.1 75)), (1, .int x1), (2, .int x2), (3, .int x3), (4, .int x4)]) hx hb dX6_strong_35 hl (by decide) rfl (fun ls hl => ?_)
      exact w_X6_strong_37 C  FU x1 x2 x3 x4 0 1000000 0 _ hf _ _ _ hR hS (lv_sub hl [3, 4, 5, 6, 7, 2, 1, 0] rfl)
    · replace hf := (if_pos c_17).symm.trans hf
      refine lv_aload_n hx hb dX6_strong_20 rfl (lv_at hl 0 rfl) ?_
      refine lv_bipush (v := (-2)) hx hb dX6_strong_21 (by decide) ?_
      obtain ⟨r23_, σ23_, hc_23, hf⟩ := bd_some hf
      refine x_cvI C hl.1 hR hS (c_X6_bad l G (-2) σ14 _ hc_23) gX6_strong_X6_bad rfl hdV_X6_bad ⟨Nat.le_of_ble_eq_true rfl, Nat.le_of_ble_eq_true rfl⟩ (by decide) (cz5 rfl) rfl rfl (As := [.int (-2)]) (rest := []) rfl (Nat.le_of_ble_eq_true rfl) ⟨Nat.le_of_ble_eq_true rfl, Nat.le_of_ble_eq_true rfl⟩ dX6_strong_23 (fun r23 σ23 H locs hq_23 hR hS => ?_)
      obtain ⟨rfl, rfl⟩ := hq_23
      obtain rfl := Option.some.inj hf
      exact x_iret C hR hS dX6_strong_26 ⟨rfl, rfl⟩
theorem hdV_X6_runWith : yX6_runWith.cls = RX6 ∧ yX6_runWith.cls ≠ "java/lang/invoke/MethodHandle" ∧ yX6_runWith.cls ≠ "java/lang/invoke/VarHandle" ∧ (parseMethodDescriptor yX6_runWith.desc).map (fun d => d.parameters.length) = some 4 := by decide +kernel
def f_X6_runWith_43 (rc7 : Int32 → Int32 → Int32 → Int32 → Int32 → St → Option (Int32 × St)) (x1 : Int32) (x2 : Int32) (x3 : Int32) (x4 : Int32) (x5 : Int32) (t0 : Int32) (t1 : Int32) (σ : St) : Option (Int32 × St) :=
  gd (t1 < 0 ∨ 8 ≤ t1.toNatClampNeg) (rc7 x1 x2 x3 x4 (x5 + 1) (pA σ 80 t1.toNatClampNeg t0))
def f_X6_runWith_7 : Nat → Int32 → Int32 → Int32 → Int32 → Int32 → St → Option (Int32 × St)
  | 0, _, _, _, _, _, _ => none
  | n + 1, x1, x2, x3, x4, x5, σ => bd (f_X6_locks σ) (fun r10 σ10 => (if r10 ≤ x5 then bd (f_X6_goRun x2 x3 x4 0 σ10) (fun r56 σ56 => some (r56, σ56)) else (if ((x1 >>> (x5 &&& 31)) &&& 1) = 1 then f_X6_runWith_43 (f_X6_runWith_7 n) x1 x2 x3 x4 x5 x2 x5 σ10 else gd (x5 < 0 ∨ 8 ≤ x5.toNatClampNeg) (f_X6_runWith_43 (f_X6_runWith_7 n) x1 x2 x3 x4 x5 (sA σ10 80 x5.toNatClampNeg) x5 σ10))))
def f_X6_runWith (x1 : Int32) (x2 : Int32) (x3 : Int32) (x4 : Int32) (σ : St) : Option (Int32 × St) :=
  bv (f_X6_layHand σ) (fun σ1 => f_X6_runWith_7 FU x1 x2 x3 x4 0 σ1)
set_option maxHeartbeats 4000000 in
set_option maxRecDepth 100000 in
theorem w_X6_runWith_43 {p : Program} {l : Launch} {e : Env} {s : State} {m : MethodId} {args : Array Value} {below : List Frame} {meth : Method} {c : Code} {G : GG} (C : Cx p s m args meth c cX6_runWith RX6 wsX6_runWith (some .int) 6 G) {res : Int32 × St} {rc7 : Int32 → Int32 → Int32 → Int32 → Int32 → St → Option (Int32 × St)} (hrc7 : ∀ (x1 : Int32) (x2 : Int32) (x3 : Int32) (x4 : Int32) (x5 : Int32) (σ : St), rc7 x1 x2 x3 x4 x5 σ = some res → WC p l e 3 s m args below meth c G (QI G res) 6 7 [(0, .ref (G.2.1 75)), (1, .int x1), (2, .int x2), (3, .int x3), (4, .int x4), (5, .int x5)] [] σ) : ∀ (x1 : Int32) (x2 : Int32) (x3 : Int32) (x4 : Int32) (x5 : Int32) (t0 : Int32) (t1 : Int32) (σ : St), f_X6_runWith_43 rc7 x1 x2 x3 x4 x5 t0 t1 σ = some res → WC p l e 3 s m args below meth c G (QI G res) 6 43 [(0, .ref (G.2.1 75)), (1, .int x1), (2, .int x2), (3, .int x3), (4, .int x4), (5, .int x5)] [.int t0, .int t1, .ref (G.2.1 80)] σ := by
  have hx := C.1
  have hb := C.2.1
  have inX6 : ∀ w ∈ u_ws RX6 TX6 22, w ∈ wsX6_runWith := fun w h => List.mem_cons_of_mem _ (List.mem_append_right _ h)
  intro x1 x2 x3 x4 x5 t0 t1 σ hf _ _ _ hR hS hl
  unfold f_X6_runWith_43 at hf
  obtain ⟨z_43, hf⟩ := gd_some hf
  refine x_iast C hR hS 80 rfl z_43 (n := t1.toNatClampNeg) rfl dX6_runWith_43 (fun H locs hR hS => ?_)
  refine lv_iinc (v := x5 + 1) (lv' := [(5, .int (x5 + 1)), (0, .ref (G.2.1 75)), (1, .int x1), (2, .int x2), (3, .int x3), (4, .int x4)]) hx hb dX6_runWith_44 hl (k := 5) rfl rfl (by decide) rfl (fun ls hl => ?_)
  refine lv_goto (tgt := 7) hx hb dX6_runWith_47 (by decide) ?_
  exact hrc7 x1 x2 x3 x4 (x5 + 1) _ hf _ _ _ hR hS (lv_sub hl [1, 2, 3, 4, 5, 0] rfl)
set_option maxHeartbeats 4000000 in
set_option maxRecDepth 100000 in
theorem w_X6_runWith_7 {p : Program} {l : Launch} {e : Env} {s : State} {m : MethodId} {args : Array Value} {below : List Frame} {meth : Method} {c : Code} {G : GG} (C : Cx p s m args meth c cX6_runWith RX6 wsX6_runWith (some .int) 6 G) {res : Int32 × St} : ∀ (n : Nat) (x1 : Int32) (x2 : Int32) (x3 : Int32) (x4 : Int32) (x5 : Int32) (σ : St), f_X6_runWith_7 n x1 x2 x3 x4 x5 σ = some res → WC p l e 3 s m args below meth c G (QI G res) 6 7 [(0, .ref (G.2.1 75)), (1, .int x1), (2, .int x2), (3, .int x3), (4, .int x4), (5, .int x5)] [] σ := by
  have hx := C.1
  have hb := C.2.1
  have inX6 : ∀ w ∈ u_ws RX6 TX6 22, w ∈ wsX6_runWith := fun w h => List.mem_cons_of_mem _ (List.mem_append_right _ h)
  intro n
  induction n with
  | zero => intro x1 x2 x3 x4 x5 σ hf; cases hf
  | succ n hrc7 =>
    intro x1 x2 x3 x4 x5 σ hf _ _ _ hR hS hl
    unfold f_X6_runWith_7 at hf
    refine lv_iload hx hb dX6_runWith_7 (lv_at hl 5 rfl) ?_
    refine lv_aload_n hx hb dX6_runWith_9 rfl (lv_at hl 0 rfl) ?_
    obtain ⟨r10_, σ10_, hc_10, hf⟩ := bd_some hf
    refine x_cvI C hl.1 hR hS (c_X6_locks l G σ _ hc_10) gX6_runWith_X6_locks rfl hdV_X6_locks ⟨Nat.le_of_ble_eq_true rfl, Nat.le_of_ble_eq_true rfl⟩ (by decide) (cz5 rfl) rfl rfl (As := []) (rest := [.int x5]) rfl (Nat.le_of_ble_eq_true rfl) ⟨Nat.le_of_ble_eq_true rfl, Nat.le_of_ble_eq_true rfl⟩ dX6_runWith_10 (fun r10 σ10 H locs hq_10 hR hS => ?_)
    obtain ⟨rfl, rfl⟩ := hq_10
    refine lv_icmp_ge (tgt := 50) hx hb dX6_runWith_13 (by decide) (fun c_13 => ?_) (fun c_13 => ?_)
    · replace hf := (if_pos c_13).symm.trans hf
      refine lv_aload_n hx hb dX6_runWith_50 rfl (lv_at hl 0 rfl) ?_
      refine lv_iload_n hx hb dX6_runWith_51 rfl (lv_at hl 2 rfl) ?_
      refine lv_iload_n hx hb dX6_runWith_52 rfl (lv_at hl 3 rfl) ?_
      refine lv_iload hx hb dX6_runWith_53 (lv_at hl 4 rfl) ?_
      refine lv_iconst (v := 0) hx hb dX6_runWith_55 (by decide) ?_
      obtain ⟨r56_, σ56_, hc_56, hf⟩ := bd_some hf
      refine x_cvI C hl.1 hR hS (c_X6_goRun l G x2 x3 x4 0 σ10 _ hc_56) gX6_runWith_X6_goRun rfl hdV_X6_goRun ⟨Nat.le_of_ble_eq_true rfl, Nat.le_of_ble_eq_true rfl⟩ (by decide) (cz5 rfl) rfl rfl (As := [.int x2, .int x3, .int x4, .int 0]) (rest := []) rfl (Nat.le_of_ble_eq_true rfl) ⟨Nat.le_of_ble_eq_true rfl, Nat.le_of_ble_eq_true rfl⟩ dX6_runWith_56 (fun r56 σ56 H locs hq_56 hR hS => ?_)
      obtain ⟨rfl, rfl⟩ := hq_56
      obtain rfl := Option.some.inj hf
      exact x_iret C hR hS dX6_runWith_59 ⟨rfl, rfl⟩
    · replace hf := (if_neg c_13).symm.trans hf
      refine lv_aload_n hx hb dX6_runWith_16 rfl (lv_at hl 0 rfl) ?_
      refine x_get C hR inX6 75 (by decide) (cz5 rfl) rfl 6 (by decide) 1 rfl (.ref (G.2.1 80)) rfl dX6_runWith_17 ?_
      refine lv_iload hx hb dX6_runWith_20 (lv_at hl 5 rfl) ?_
      refine lv_iload_n hx hb dX6_runWith_22 rfl (lv_at hl 1 rfl) ?_
      refine lv_iload hx hb dX6_runWith_23 (lv_at hl 5 rfl) ?_
      refine lv_ishr hx hb dX6_runWith_25 ?_
      refine lv_iconst (v := 1) hx hb dX6_runWith_26 (by decide) ?_
      refine lv_iand hx hb dX6_runWith_27 ?_
      refine lv_iconst (v := 1) hx hb dX6_runWith_28 (by decide) ?_
      refine lv_icmp_ne (tgt := 36) hx hb dX6_runWith_29 (by decide) (fun c_29 => ?_) (fun c_29 => ?_)
      · replace hf := (if_neg c_29).symm.trans hf
        refine lv_aload_n hx hb dX6_runWith_36 rfl (lv_at hl 0 rfl) ?_
        refine x_get C hR inX6 75 (by decide) (cz5 rfl) rfl 6 (by decide) 1 rfl (.ref (G.2.1 80)) rfl dX6_runWith_37 ?_
        refine lv_iload hx hb dX6_runWith_40 (lv_at hl 5 rfl) ?_
        obtain ⟨z_42, hf⟩ := gd_some hf
        refine x_iald C hR 80 rfl z_42 (n := x5.toNatClampNeg) rfl (sA σ10 80 x5.toNatClampNeg) rfl dX6_runWith_42 ?_
        exact w_X6_runWith_43 C hrc7 x1 x2 x3 x4 x5 (sA σ10 80 x5.toNatClampNeg) x5 _ hf _ _ _ hR hS (lv_sub hl [0, 1, 2, 3, 4, 5] rfl)
      · replace hf := (if_pos c_29).symm.trans hf
        refine lv_iload_n hx hb dX6_runWith_32 rfl (lv_at hl 2 rfl) ?_
        refine lv_goto (tgt := 43) hx hb dX6_runWith_33 (by decide) ?_
        exact w_X6_runWith_43 C hrc7 x1 x2 x3 x4 x5 x2 x5 _ hf _ _ _ hR hS (lv_sub hl [0, 1, 2, 3, 4, 5] rfl)
set_option maxHeartbeats 4000000 in
set_option maxRecDepth 100000 in
theorem c_X6_runWith (l : Launch) (G : GG) (x1 : Int32) (x2 : Int32) (x3 : Int32) (x4 : Int32) (σ : St) (res : Int32 × St) (hf : f_X6_runWith x1 x2 x3 x4 σ = some res) : CI l yX6_runWith wsX6_runWith 3 [.ref (G.2.1 75), .int x1, .int x2, .int x3, .int x4] G σ (fun r u => r = res.1 ∧ u = res.2) := by
  refine x_ent (ret := (some .int)) cX6_runWith 6 (by decide) rfl (Nat.le_of_ble_eq_true rfl) ?_
  intro p e s m below meth c ls C hR hS hl
  have C : Cx p s m [.ref (G.2.1 75), .int x1, .int x2, .int x3, .int x4].toArray meth c cX6_runWith RX6 wsX6_runWith (some .int) 6 G := C
  have hx := C.1
  have hb := C.2.1
  have hl : lv_has ls 6 [(0, .ref (G.2.1 75)), (1, .int x1), (2, .int x2), (3, .int x3), (4, .int x4)] := hl
  have inX6 : ∀ w ∈ u_ws RX6 TX6 22, w ∈ wsX6_runWith := fun w h => List.mem_cons_of_mem _ (List.mem_append_right _ h)
  unfold f_X6_runWith at hf
  refine lv_aload_n hx hb dX6_runWith_0 rfl (lv_at hl 0 rfl) ?_
  obtain ⟨σ1_, hc_1, hf⟩ := bv_some hf
  refine x_cvV C hl.1 hR hS (c_X6_layHand l G σ _ hc_1) gX6_runWith_X6_layHand rfl hdV_X6_layHand ⟨Nat.le_of_ble_eq_true rfl, Nat.le_of_ble_eq_true rfl⟩ (by decide) (cz5 rfl) rfl rfl (As := []) (rest := []) rfl (Nat.le_of_ble_eq_true rfl) ⟨Nat.le_of_ble_eq_true rfl, Nat.le_of_ble_eq_true rfl⟩ dX6_runWith_1 (fun σ1 H locs hq_1 hR hS => ?_)
  subst hq_1
  refine lv_iconst (v := 0) hx hb dX6_runWith_4 (by decide) ?_
  refine lv_istore (lv' := [(5, .int 0), (0, .ref (G.2.1 75)), (1, .int x1), (2, .int x2), (3, .int x3), (4, .int x4)]) hx hb dX6_runWith_5 hl (by decide) rfl (fun ls hl => ?_)
  exact w_X6_runWith_7 C  FU x1 x2 x3 x4 0 _ hf _ _ _ hR hS (lv_sub hl [1, 2, 3, 4, 5, 0] rfl)
theorem hdV_X6_hire : yX6_hire.cls = RX6 ∧ yX6_hire.cls ≠ "java/lang/invoke/MethodHandle" ∧ yX6_hire.cls ≠ "java/lang/invoke/VarHandle" ∧ (parseMethodDescriptor yX6_hire.desc).map (fun d => d.parameters.length) = some 5 := by decide +kernel
def f_X6_hire_153 (rc56 : Int32 → Int32 → Int32 → Int32 → Int32 → Int32 → Int32 → Int32 → St → Option (Int32 × St)) (x1 : Int32) (x2 : Int32) (x3 : Int32) (x4 : Int32) (x5 : Int32) (x6 : Int32) (x8 : Int32) (t0 : Int32) (σ : St) : Option (Int32 × St) :=
  rc56 x1 x2 x3 x4 x5 x6 t0 (x8 + 1) σ
def f_X6_hire_139 (rc56 : Int32 → Int32 → Int32 → Int32 → Int32 → Int32 → Int32 → Int32 → St → Option (Int32 × St)) (x1 : Int32) (x2 : Int32) (x3 : Int32) (x4 : Int32) (x5 : Int32) (x7 : Int32) (x8 : Int32) (x9 : Int32) (x10 : Int32) (t0 : Int32) (σ : St) : Option (Int32 × St) :=
  (if x10 = 0 then f_X6_hire_153 rc56 x1 x2 x3 x4 x5 t0 x8 x7 σ else f_X6_hire_153 rc56 x1 x2 x3 x4 x5 t0 x8 x9 σ)
def f_X6_hire_125 (rc56 : Int32 → Int32 → Int32 → Int32 → Int32 → Int32 → Int32 → Int32 → St → Option (Int32 × St)) (x1 : Int32) (x2 : Int32) (x3 : Int32) (x4 : Int32) (x5 : Int32) (x6 : Int32) (x7 : Int32) (x8 : Int32) (x9 : Int32) (t0 : Int32) (σ : St) : Option (Int32 × St) :=
  (if t0 = 0 then f_X6_hire_139 rc56 x1 x2 x3 x4 x5 x7 x8 x9 t0 x6 σ else f_X6_hire_139 rc56 x1 x2 x3 x4 x5 x7 x8 x9 t0 x8 σ)
def f_X6_hire_120 (rc56 : Int32 → Int32 → Int32 → Int32 → Int32 → Int32 → Int32 → Int32 → St → Option (Int32 × St)) (x1 : Int32) (x2 : Int32) (x3 : Int32) (x4 : Int32) (x5 : Int32) (x6 : Int32) (x7 : Int32) (x8 : Int32) (x9 : Int32) (σ : St) : Option (Int32 × St) :=
  f_X6_hire_125 rc56 x1 x2 x3 x4 x5 x6 x7 x8 x9 1 σ
def f_X6_hire_124 (rc56 : Int32 → Int32 → Int32 → Int32 → Int32 → Int32 → Int32 → Int32 → St → Option (Int32 × St)) (x1 : Int32) (x2 : Int32) (x3 : Int32) (x4 : Int32) (x5 : Int32) (x6 : Int32) (x7 : Int32) (x8 : Int32) (x9 : Int32) (σ : St) : Option (Int32 × St) :=
  f_X6_hire_125 rc56 x1 x2 x3 x4 x5 x6 x7 x8 x9 0 σ
def f_X6_hire_91 (rc56 : Int32 → Int32 → Int32 → Int32 → Int32 → Int32 → Int32 → Int32 → St → Option (Int32 × St)) (x1 : Int32) (x2 : Int32) (x3 : Int32) (x4 : Int32) (x5 : Int32) (x6 : Int32) (x7 : Int32) (x8 : Int32) (t0 : Int32) (σ : St) : Option (Int32 × St) :=
  (if t0 < x7 then f_X6_hire_120 rc56 x1 x2 x3 x4 x5 x6 x7 x8 t0 σ else (if t0 = x7 then bd (f_X6_bits x8 σ) (fun r109 σ109 => bd (f_X6_bits x6 σ109) (fun r114 σ114 => (if r114 ≤ r109 then f_X6_hire_124 rc56 x1 x2 x3 x4 x5 x6 x7 x8 t0 σ114 else f_X6_hire_120 rc56 x1 x2 x3 x4 x5 x6 x7 x8 t0 σ114))) else f_X6_hire_124 rc56 x1 x2 x3 x4 x5 x6 x7 x8 t0 σ))
def f_X6_hire_56 : Nat → Int32 → Int32 → Int32 → Int32 → Int32 → Int32 → Int32 → Int32 → St → Option (Int32 × St)
  | 0, _, _, _, _, _, _, _, _, _ => none
  | n + 1, x1, x2, x3, x4, x5, x6, x7, x8, σ => bd (f_X6_locks σ) (fun r60 σ60 => (if (1 <<< (r60 &&& 31)) ≤ x8 then (if x5 = 0 then some (x6, σ60) else some (x7, σ60)) else bd (f_X6_bits x8 σ60) (fun r69 σ69 => (if x4 < r69 then f_X6_hire_91 (f_X6_hire_56 n) x1 x2 x3 x4 x5 x6 x7 x8 1000000 σ69 else bd (f_X6_runWith x8 x1 x2 x3 σ69) (fun r83 σ83 => f_X6_hire_91 (f_X6_hire_56 n) x1 x2 x3 x4 x5 x6 x7 x8 r83 σ83)))))
def f_X6_hire (x1 : Int32) (x2 : Int32) (x3 : Int32) (x4 : Int32) (x5 : Int32) (σ : St) : Option (Int32 × St) :=
  bd (f_X6_isRun x1 x2 x3 σ) (fun r3 σ3 => (if r3 = 0 then bd (f_X6_bad (-2) σ3) (fun r36 σ36 => some (r36, σ36)) else bd (f_X6_in x4.toInt64 0 3 σ3) (fun r16 σ16 => (if r16 = 0 then bd (f_X6_bad (-2) σ16) (fun r36 σ36 => some (r36, σ36)) else bd (f_X6_in x5.toInt64 0 1 σ16) (fun r27 σ27 => (if r27 = 0 then bd (f_X6_bad (-2) σ27) (fun r36 σ36 => some (r36, σ36)) else bd (f_X6_runWith 0 x1 x2 x3 σ27) (fun r48 σ48 => f_X6_hire_56 FU x1 x2 x3 x4 x5 0 r48 1 σ48)))))))
set_option maxHeartbeats 4000000 in
set_option maxRecDepth 100000 in
theorem w_X6_hire_153 {p : Program} {l : Launch} {e : Env} {s : State} {m : MethodId} {args : Array Value} {below : List Frame} {meth : Method} {c : Code} {G : GG} (C : Cx p s m args meth c cX6_hire RX6 wsX6_hire (some .int) 11 G) {res : Int32 × St} {rc56 : Int32 → Int32 → Int32 → Int32 → Int32 → Int32 → Int32 → Int32 → St → Option (Int32 × St)} (hrc56 : ∀ (x1 : Int32) (x2 : Int32) (x3 : Int32) (x4 : Int32) (x5 : Int32) (x6 : Int32) (x7 : Int32) (x8 : Int32) (σ : St), rc56 x1 x2 x3 x4 x5 x6 x7 x8 σ = some res → WC p l e 4 s m args below meth c G (QI G res) 11 56 [(0, .ref (G.2.1 75)), (1, .int x1), (2, .int x2), (3, .int x3), (4, .int x4), (5, .int x5), (6, .int x6), (7, .int x7), (8, .int x8)] [] σ) : ∀ (x1 : Int32) (x2 : Int32) (x3 : Int32) (x4 : Int32) (x5 : Int32) (x6 : Int32) (x8 : Int32) (t0 : Int32) (σ : St), f_X6_hire_153 rc56 x1 x2 x3 x4 x5 x6 x8 t0 σ = some res → WC p l e 4 s m args below meth c G (QI G res) 11 153 [(0, .ref (G.2.1 75)), (1, .int x1), (2, .int x2), (3, .int x3), (4, .int x4), (5, .int x5), (6, .int x6), (8, .int x8)] [.int t0] σ := by
  have hx := C.1
  have hb := C.2.1
  intro x1 x2 x3 x4 x5 x6 x8 t0 σ hf _ _ _ hR hS hl
  unfold f_X6_hire_153 at hf
  refine lv_istore (lv' := [(7, .int t0), (0, .ref (G.2.1 75)), (1, .int x1), (2, .int x2), (3, .int x3), (4, .int x4), (5, .int x5), (6, .int x6), (8, .int x8)]) hx hb dX6_hire_153 hl (by decide) rfl (fun ls hl => ?_)
  refine lv_iinc (v := x8 + 1) (lv' := [(8, .int (x8 + 1)), (7, .int t0), (0, .ref (G.2.1 75)), (1, .int x1), (2, .int x2), (3, .int x3), (4, .int x4), (5, .int x5), (6, .int x6)]) hx hb dX6_hire_155 hl (k := 8) rfl rfl (by decide) rfl (fun ls hl => ?_)
  refine lv_goto (tgt := 56) hx hb dX6_hire_158 (by decide) ?_
  exact hrc56 x1 x2 x3 x4 x5 x6 t0 (x8 + 1) _ hf _ _ _ hR hS (lv_sub hl [2, 3, 4, 5, 6, 7, 8, 1, 0] rfl)
set_option maxHeartbeats 4000000 in
set_option maxRecDepth 100000 in
theorem w_X6_hire_139 {p : Program} {l : Launch} {e : Env} {s : State} {m : MethodId} {args : Array Value} {below : List Frame} {meth : Method} {c : Code} {G : GG} (C : Cx p s m args meth c cX6_hire RX6 wsX6_hire (some .int) 11 G) {res : Int32 × St} {rc56 : Int32 → Int32 → Int32 → Int32 → Int32 → Int32 → Int32 → Int32 → St → Option (Int32 × St)} (hrc56 : ∀ (x1 : Int32) (x2 : Int32) (x3 : Int32) (x4 : Int32) (x5 : Int32) (x6 : Int32) (x7 : Int32) (x8 : Int32) (σ : St), rc56 x1 x2 x3 x4 x5 x6 x7 x8 σ = some res → WC p l e 4 s m args below meth c G (QI G res) 11 56 [(0, .ref (G.2.1 75)), (1, .int x1), (2, .int x2), (3, .int x3), (4, .int x4), (5, .int x5), (6, .int x6), (7, .int x7), (8, .int x8)] [] σ) : ∀ (x1 : Int32) (x2 : Int32) (x3 : Int32) (x4 : Int32) (x5 : Int32) (x7 : Int32) (x8 : Int32) (x9 : Int32) (x10 : Int32) (t0 : Int32) (σ : St), f_X6_hire_139 rc56 x1 x2 x3 x4 x5 x7 x8 x9 x10 t0 σ = some res → WC p l e 4 s m args below meth c G (QI G res) 11 139 [(0, .ref (G.2.1 75)), (1, .int x1), (2, .int x2), (3, .int x3), (4, .int x4), (5, .int x5), (7, .int x7), (8, .int x8), (9, .int x9), (10, .int x10)] [.int t0] σ := by
  have hx := C.1
  have hb := C.2.1
  intro x1 x2 x3 x4 x5 x7 x8 x9 x10 t0 σ hf _ _ _ hR hS hl
  unfold f_X6_hire_139 at hf
  refine lv_istore (lv' := [(6, .int t0), (0, .ref (G.2.1 75)), (1, .int x1), (2, .int x2), (3, .int x3), (4, .int x4), (5, .int x5), (7, .int x7), (8, .int x8), (9, .int x9), (10, .int x10)]) hx hb dX6_hire_139 hl (by decide) rfl (fun ls hl => ?_)
  refine lv_iload hx hb dX6_hire_141 (lv_at hl 10 rfl) ?_
  refine lv_if_eq (tgt := 151) hx hb dX6_hire_143 (by decide) (fun c_143 => ?_) (fun c_143 => ?_)
  · replace hf := (if_pos c_143).symm.trans hf
    refine lv_iload hx hb dX6_hire_151 (lv_at hl 7 rfl) ?_
    exact w_X6_hire_153 C hrc56 x1 x2 x3 x4 x5 t0 x8 x7 _ hf _ _ _ hR hS (lv_sub hl [1, 2, 3, 4, 5, 6, 0, 8] rfl)
  · replace hf := (if_neg c_143).symm.trans hf
    refine lv_iload hx hb dX6_hire_146 (lv_at hl 9 rfl) ?_
    refine lv_goto (tgt := 153) hx hb dX6_hire_148 (by decide) ?_
    exact w_X6_hire_153 C hrc56 x1 x2 x3 x4 x5 t0 x8 x9 _ hf _ _ _ hR hS (lv_sub hl [1, 2, 3, 4, 5, 6, 0, 8] rfl)
set_option maxHeartbeats 4000000 in
set_option maxRecDepth 100000 in
theorem w_X6_hire_125 {p : Program} {l : Launch} {e : Env} {s : State} {m : MethodId} {args : Array Value} {below : List Frame} {meth : Method} {c : Code} {G : GG} (C : Cx p s m args meth c cX6_hire RX6 wsX6_hire (some .int) 11 G) {res : Int32 × St} {rc56 : Int32 → Int32 → Int32 → Int32 → Int32 → Int32 → Int32 → Int32 → St → Option (Int32 × St)} (hrc56 : ∀ (x1 : Int32) (x2 : Int32) (x3 : Int32) (x4 : Int32) (x5 : Int32) (x6 : Int32) (x7 : Int32) (x8 : Int32) (σ : St), rc56 x1 x2 x3 x4 x5 x6 x7 x8 σ = some res → WC p l e 4 s m args below meth c G (QI G res) 11 56 [(0, .ref (G.2.1 75)), (1, .int x1), (2, .int x2), (3, .int x3), (4, .int x4), (5, .int x5), (6, .int x6), (7, .int x7), (8, .int x8)] [] σ) : ∀ (x1 : Int32) (x2 : Int32) (x3 : Int32) (x4 : Int32) (x5 : Int32) (x6 : Int32) (x7 : Int32) (x8 : Int32) (x9 : Int32) (t0 : Int32) (σ : St), f_X6_hire_125 rc56 x1 x2 x3 x4 x5 x6 x7 x8 x9 t0 σ = some res → WC p l e 4 s m args below meth c G (QI G res) 11 125 [(0, .ref (G.2.1 75)), (1, .int x1), (2, .int x2), (3, .int x3), (4, .int x4), (5, .int x5), (6, .int x6), (7, .int x7), (8, .int x8), (9, .int x9)] [.int t0] σ := by
  have hx := C.1
  have hb := C.2.1
  intro x1 x2 x3 x4 x5 x6 x7 x8 x9 t0 σ hf _ _ _ hR hS hl
  unfold f_X6_hire_125 at hf
  refine lv_istore (lv' := [(10, .int t0), (0, .ref (G.2.1 75)), (1, .int x1), (2, .int x2), (3, .int x3), (4, .int x4), (5, .int x5), (6, .int x6), (7, .int x7), (8, .int x8), (9, .int x9)]) hx hb dX6_hire_125 hl (by decide) rfl (fun ls hl => ?_)
  refine lv_iload hx hb dX6_hire_127 (lv_at hl 0 rfl) ?_
  refine lv_if_eq (tgt := 137) hx hb dX6_hire_129 (by decide) (fun c_129 => ?_) (fun c_129 => ?_)
  · replace hf := (if_pos c_129).symm.trans hf
    refine lv_iload hx hb dX6_hire_137 (lv_at hl 7 rfl) ?_
    exact w_X6_hire_139 C hrc56 x1 x2 x3 x4 x5 x7 x8 x9 t0 x6 _ hf _ _ _ hR hS (lv_sub hl [1, 2, 3, 4, 5, 6, 8, 9, 10, 0] rfl)
  · replace hf := (if_neg c_129).symm.trans hf
    refine lv_iload hx hb dX6_hire_132 (lv_at hl 9 rfl) ?_
    refine lv_goto (tgt := 139) hx hb dX6_hire_134 (by decide) ?_
    exact w_X6_hire_139 C hrc56 x1 x2 x3 x4 x5 x7 x8 x9 t0 x8 _ hf _ _ _ hR hS (lv_sub hl [1, 2, 3, 4, 5, 6, 8, 9, 10, 0] rfl)
set_option maxHeartbeats 4000000 in
set_option maxRecDepth 100000 in
theorem w_X6_hire_120 {p : Program} {l : Launch} {e : Env} {s : State} {m : MethodId} {args : Array Value} {below : List Frame} {meth : Method} {c : Code} {G : GG} (C : Cx p s m args meth c cX6_hire RX6 wsX6_hire (some .int) 11 G) {res : Int32 × St} {rc56 : Int32 → Int32 → Int32 → Int32 → Int32 → Int32 → Int32 → Int32 → St → Option (Int32 × St)} (hrc56 : ∀ (x1 : Int32) (x2 : Int32) (x3 : Int32) (x4 : Int32) (x5 : Int32) (x6 : Int32) (x7 : Int32) (x8 : Int32) (σ : St), rc56 x1 x2 x3 x4 x5 x6 x7 x8 σ = some res → WC p l e 4 s m args below meth c G (QI G res) 11 56 [(0, .ref (G.2.1 75)), (1, .int x1), (2, .int x2), (3, .int x3), (4, .int x4), (5, .int x5), (6, .int x6), (7, .int x7), (8, .int x8)] [] σ) : ∀ (x1 : Int32) (x2 : Int32) (x3 : Int32) (x4 : Int32) (x5 : Int32) (x6 : Int32) (x7 : Int32) (x8 : Int32) (x9 : Int32) (σ : St), f_X6_hire_120 rc56 x1 x2 x3 x4 x5 x6 x7 x8 x9 σ = some res → WC p l e 4 s m args below meth c G (QI G res) 11 120 [(0, .ref (G.2.1 75)), (1, .int x1), (2, .int x2), (3, .int x3), (4, .int x4), (5, .int x5), (6, .int x6), (7, .int x7), (8, .int x8), (9, .int x9)] [] σ := by
  have hx := C.1
  have hb := C.2.1
  intro x1 x2 x3 x4 x5 x6 x7 x8 x9 σ hf _ _ _ hR hS hl
  unfold f_X6_hire_120 at hf
  refine lv_iconst (v := 1) hx hb dX6_hire_120 (by decide) ?_
  refine lv_goto (tgt := 125) hx hb dX6_hire_121 (by decide) ?_
  exact w_X6_hire_125 C hrc56 x1 x2 x3 x4 x5 x6 x7 x8 x9 1 _ hf _ _ _ hR hS (lv_sub hl [0, 1, 2, 3, 4, 5, 6, 7, 8, 9] rfl)
set_option maxHeartbeats 4000000 in
set_option maxRecDepth 100000 in
theorem w_X6_hire_124 {p : Program} {l : Launch} {e : Env} {s : State} {m : MethodId} {args : Array Value} {below : List Frame} {meth : Method} {c : Code} {G : GG} (C : Cx p s m args meth c cX6_hire RX6 wsX6_hire (some .int) 11 G) {res : Int32 × St} {rc56 : Int32 → Int32 → Int32 → Int32 → Int32 → Int32 → Int32 → Int32 → St → Option (Int32 × St)} (hrc56 : ∀ (x1 : Int32) (x2 : Int32) (x3 : Int32) (x4 : Int32) (x5 : Int32) (x6 : Int32) (x7 : Int32) (x8 : Int32) (σ : St), rc56 x1 x2 x3 x4 x5 x6 x7 x8 σ = some res → WC p l e 4 s m args below meth c G (QI G res) 11 56 [(0, .ref (G.2.1 75)), (1, .int x1), (2, .int x2), (3, .int x3), (4, .int x4), (5, .int x5), (6, .int x6), (7, .int x7), (8, .int x8)] [] σ) : ∀ (x1 : Int32) (x2 : Int32) (x3 : Int32) (x4 : Int32) (x5 : Int32) (x6 : Int32) (x7 : Int32) (x8 : Int32) (x9 : Int32) (σ : St), f_X6_hire_124 rc56 x1 x2 x3 x4 x5 x6 x7 x8 x9 σ = some res → WC p l e 4 s m args below meth c G (QI G res) 11 124 [(0, .ref (G.2.1 75)), (1, .int x1), (2, .int x2), (3, .int x3), (4, .int x4), (5, .int x5), (6, .int x6), (7, .int x7), (8, .int x8), (9, .int x9)] [] σ := by
  have hx := C.1
  have hb := C.2.1
  intro x1 x2 x3 x4 x5 x6 x7 x8 x9 σ hf _ _ _ hR hS hl
  unfold f_X6_hire_124 at hf
  refine lv_iconst (v := 0) hx hb dX6_hire_124 (by decide) ?_
  exact w_X6_hire_125 C hrc56 x1 x2 x3 x4 x5 x6 x7 x8 x9 0 _ hf _ _ _ hR hS (lv_sub hl [0, 1, 2, 3, 4, 5, 6, 7, 8, 9] rfl)
set_option maxHeartbeats 4000000 in
set_option maxRecDepth 100000 in
theorem w_X6_hire_91 {p : Program} {l : Launch} {e : Env} {s : State} {m : MethodId} {args : Array Value} {below : List Frame} {meth : Method} {c : Code} {G : GG} (C : Cx p s m args meth c cX6_hire RX6 wsX6_hire (some .int) 11 G) {res : Int32 × St} {rc56 : Int32 → Int32 → Int32 → Int32 → Int32 → Int32 → Int32 → Int32 → St → Option (Int32 × St)} (hrc56 : ∀ (x1 : Int32) (x2 : Int32) (x3 : Int32) (x4 : Int32) (x5 : Int32) (x6 : Int32) (x7 : Int32) (x8 : Int32) (σ : St), rc56 x1 x2 x3 x4 x5 x6 x7 x8 σ = some res → WC p l e 4 s m args below meth c G (QI G res) 11 56 [(0, .ref (G.2.1 75)), (1, .int x1), (2, .int x2), (3, .int x3), (4, .int x4), (5, .int x5), (6, .int x6), (7, .int x7), (8, .int x8)] [] σ) : ∀ (x1 : Int32) (x2 : Int32) (x3 : Int32) (x4 : Int32) (x5 : Int32) (x6 : Int32) (x7 : Int32) (x8 : Int32) (t0 : Int32) (σ : St), f_X6_hire_91 rc56 x1 x2 x3 x4 x5 x6 x7 x8 t0 σ = some res → WC p l e 4 s m args below meth c G (QI G res) 11 91 [(0, .ref (G.2.1 75)), (1, .int x1), (2, .int x2), (3, .int x3), (4, .int x4), (5, .int x5), (6, .int x6), (7, .int x7), (8, .int x8)] [.int t0] σ := by
  have hx := C.1
  have hb := C.2.1
  intro x1 x2 x3 x4 x5 x6 x7 x8 t0 σ hf _ _ _ hR hS hl
  unfold f_X6_hire_91 at hf
  refine lv_istore (lv' := [(9, .int t0), (0, .ref (G.2.1 75)), (1, .int x1), (2, .int x2), (3, .int x3), (4, .int x4), (5, .int x5), (6, .int x6), (7, .int x7), (8, .int x8)]) hx hb dX6_hire_91 hl (by decide) rfl (fun ls hl => ?_)
  refine lv_iload hx hb dX6_hire_93 (lv_at hl 0 rfl) ?_
  refine lv_iload hx hb dX6_hire_95 (lv_at hl 8 rfl) ?_
  refine lv_icmp_lt (tgt := 120) hx hb dX6_hire_97 (by decide) (fun c_97 => ?_) (fun c_97 => ?_)
  · replace hf := (if_pos c_97).symm.trans hf
    exact w_X6_hire_120 C hrc56 x1 x2 x3 x4 x5 x6 x7 x8 t0 _ hf _ _ _ hR hS (lv_sub hl [1, 2, 3, 4, 5, 6, 7, 8, 9, 0] rfl)
  · replace hf := (if_neg c_97).symm.trans hf
    refine lv_iload hx hb dX6_hire_100 (lv_at hl 0 rfl) ?_
    refine lv_iload hx hb dX6_hire_102 (lv_at hl 8 rfl) ?_
    refine lv_icmp_ne (tgt := 124) hx hb dX6_hire_104 (by decide) (fun c_104 => ?_) (fun c_104 => ?_)
    · replace hf := (if_neg c_104).symm.trans hf
      exact w_X6_hire_124 C hrc56 x1 x2 x3 x4 x5 x6 x7 x8 t0 _ hf _ _ _ hR hS (lv_sub hl [1, 2, 3, 4, 5, 6, 7, 8, 9, 0] rfl)
    · replace hf := (if_pos c_104).symm.trans hf
      refine lv_iload hx hb dX6_hire_107 (lv_at hl 9 rfl) ?_
      obtain ⟨r109_, σ109_, hc_109, hf⟩ := bd_some hf
      refine x_csI C hl.1 hR hS (c_X6_bits l G x8 σ _ hc_109) gX6_hire_X6_bits rfl hdS_X6_bits ⟨Nat.le_of_ble_eq_true rfl, Nat.le_of_ble_eq_true rfl⟩ rfl (As := [.int x8]) (rest := []) rfl (Nat.le_of_ble_eq_true rfl) ⟨Nat.le_of_ble_eq_true rfl, Nat.le_of_ble_eq_true rfl⟩ dX6_hire_109 (fun r109 σ109 H locs hq_109 hR hS => ?_)
      obtain ⟨rfl, rfl⟩ := hq_109
      refine lv_iload hx hb dX6_hire_112 (lv_at hl 7 rfl) ?_
      obtain ⟨r114_, σ114_, hc_114, hf⟩ := bd_some hf
      refine x_csI C hl.1 hR hS (c_X6_bits l G x6 σ109 _ hc_114) gX6_hire_X6_bits rfl hdS_X6_bits ⟨Nat.le_of_ble_eq_true rfl, Nat.le_of_ble_eq_true rfl⟩ rfl (As := [.int x6]) (rest := [.int r109]) rfl (Nat.le_of_ble_eq_true rfl) ⟨Nat.le_of_ble_eq_true rfl, Nat.le_of_ble_eq_true rfl⟩ dX6_hire_114 (fun r114 σ114 H locs hq_114 hR hS => ?_)
      obtain ⟨rfl, rfl⟩ := hq_114
      refine lv_icmp_ge (tgt := 124) hx hb dX6_hire_117 (by decide) (fun c_117 => ?_) (fun c_117 => ?_)
      · replace hf := (if_pos c_117).symm.trans hf
        exact w_X6_hire_124 C hrc56 x1 x2 x3 x4 x5 x6 x7 x8 t0 _ hf _ _ _ hR hS (lv_sub hl [1, 2, 3, 4, 5, 6, 7, 8, 9, 0] rfl)
      · replace hf := (if_neg c_117).symm.trans hf
        exact w_X6_hire_120 C hrc56 x1 x2 x3 x4 x5 x6 x7 x8 t0 _ hf _ _ _ hR hS (lv_sub hl [1, 2, 3, 4, 5, 6, 7, 8, 9, 0] rfl)
set_option maxHeartbeats 4000000 in
set_option maxRecDepth 100000 in
theorem w_X6_hire_56 {p : Program} {l : Launch} {e : Env} {s : State} {m : MethodId} {args : Array Value} {below : List Frame} {meth : Method} {c : Code} {G : GG} (C : Cx p s m args meth c cX6_hire RX6 wsX6_hire (some .int) 11 G) {res : Int32 × St} : ∀ (n : Nat) (x1 : Int32) (x2 : Int32) (x3 : Int32) (x4 : Int32) (x5 : Int32) (x6 : Int32) (x7 : Int32) (x8 : Int32) (σ : St), f_X6_hire_56 n x1 x2 x3 x4 x5 x6 x7 x8 σ = some res → WC p l e 4 s m args below meth c G (QI G res) 11 56 [(0, .ref (G.2.1 75)), (1, .int x1), (2, .int x2), (3, .int x3), (4, .int x4), (5, .int x5), (6, .int x6), (7, .int x7), (8, .int x8)] [] σ := by
  have hx := C.1
  have hb := C.2.1
  intro n
  induction n with
  | zero => intro x1 x2 x3 x4 x5 x6 x7 x8 σ hf; cases hf
  | succ n hrc56 =>
    intro x1 x2 x3 x4 x5 x6 x7 x8 σ hf _ _ _ hR hS hl
    unfold f_X6_hire_56 at hf
    refine lv_iload hx hb dX6_hire_56 (lv_at hl 8 rfl) ?_
    refine lv_iconst (v := 1) hx hb dX6_hire_58 (by decide) ?_
    refine lv_aload_n hx hb dX6_hire_59 rfl (lv_at hl 0 rfl) ?_
    obtain ⟨r60_, σ60_, hc_60, hf⟩ := bd_some hf
    refine x_cvI C hl.1 hR hS (c_X6_locks l G σ _ hc_60) gX6_hire_X6_locks rfl hdV_X6_locks ⟨Nat.le_of_ble_eq_true rfl, Nat.le_of_ble_eq_true rfl⟩ (by decide) (cz5 rfl) rfl rfl (As := []) (rest := [.int 1, .int x8]) rfl (Nat.le_of_ble_eq_true rfl) ⟨Nat.le_of_ble_eq_true rfl, Nat.le_of_ble_eq_true rfl⟩ dX6_hire_60 (fun r60 σ60 H locs hq_60 hR hS => ?_)
    obtain ⟨rfl, rfl⟩ := hq_60
    refine lv_ishl hx hb dX6_hire_63 ?_
    refine lv_icmp_ge (tgt := 161) hx hb dX6_hire_64 (by decide) (fun c_64 => ?_) (fun c_64 => ?_)
    · replace hf := (if_pos c_64).symm.trans hf
      refine lv_iload hx hb dX6_hire_161 (lv_at hl 5 rfl) ?_
      refine lv_if_ne (tgt := 171) hx hb dX6_hire_163 (by decide) (fun c_163 => ?_) (fun c_163 => ?_)
      · replace hf := (if_neg c_163).symm.trans hf
        refine lv_iload hx hb dX6_hire_171 (lv_at hl 7 rfl) ?_
        obtain rfl := Option.some.inj hf
        exact x_iret C hR hS dX6_hire_173 ⟨rfl, rfl⟩
      · replace hf := (if_pos c_163).symm.trans hf
        refine lv_iload hx hb dX6_hire_166 (lv_at hl 6 rfl) ?_
        refine lv_goto (tgt := 173) hx hb dX6_hire_168 (by decide) ?_
        obtain rfl := Option.some.inj hf
        exact x_iret C hR hS dX6_hire_173 ⟨rfl, rfl⟩
    · replace hf := (if_neg c_64).symm.trans hf
      refine lv_iload hx hb dX6_hire_67 (lv_at hl 8 rfl) ?_
      obtain ⟨r69_, σ69_, hc_69, hf⟩ := bd_some hf
      refine x_csI C hl.1 hR hS (c_X6_bits l G x8 σ60 _ hc_69) gX6_hire_X6_bits rfl hdS_X6_bits ⟨Nat.le_of_ble_eq_true rfl, Nat.le_of_ble_eq_true rfl⟩ rfl (As := [.int x8]) (rest := []) rfl (Nat.le_of_ble_eq_true rfl) ⟨Nat.le_of_ble_eq_true rfl, Nat.le_of_ble_eq_true rfl⟩ dX6_hire_69 (fun r69 σ69 H locs hq_69 hR hS => ?_)
      obtain ⟨rfl, rfl⟩ := hq_69
      refine lv_iload hx hb dX6_hire_72 (lv_at hl 4 rfl) ?_
      refine lv_icmp_gt (tgt := 89) hx hb dX6_hire_74 (by decide) (fun c_74 => ?_) (fun c_74 => ?_)
      · replace hf := (if_pos c_74).symm.trans hf
        refine lv_ldc (v := 1000000) hx hb C.2.2.2.2.1 (C.2.2.2.2.2.1 _ (List.mem_of_getElem? (i := 2) rfl)) dX6_hire_89 ?_
        exact w_X6_hire_91 C hrc56 x1 x2 x3 x4 x5 x6 x7 x8 1000000 _ hf _ _ _ hR hS (lv_sub hl [0, 1, 2, 3, 4, 5, 6, 7, 8] rfl)
      · replace hf := (if_neg c_74).symm.trans hf
        refine lv_aload_n hx hb dX6_hire_77 rfl (lv_at hl 0 rfl) ?_
        refine lv_iload hx hb dX6_hire_78 (lv_at hl 8 rfl) ?_
        refine lv_iload_n hx hb dX6_hire_80 rfl (lv_at hl 1 rfl) ?_
        refine lv_iload_n hx hb dX6_hire_81 rfl (lv_at hl 2 rfl) ?_
        refine lv_iload_n hx hb dX6_hire_82 rfl (lv_at hl 3 rfl) ?_
        obtain ⟨r83_, σ83_, hc_83, hf⟩ := bd_some hf
        refine x_cvI C hl.1 hR hS (c_X6_runWith l G x8 x1 x2 x3 σ69 _ hc_83) gX6_hire_X6_runWith rfl hdV_X6_runWith ⟨Nat.le_of_ble_eq_true rfl, Nat.le_of_ble_eq_true rfl⟩ (by decide) (cz5 rfl) rfl rfl (As := [.int x8, .int x1, .int x2, .int x3]) (rest := []) rfl (Nat.le_of_ble_eq_true rfl) ⟨Nat.le_of_ble_eq_true rfl, Nat.le_of_ble_eq_true rfl⟩ dX6_hire_83 (fun r83 σ83 H locs hq_83 hR hS => ?_)
        obtain ⟨rfl, rfl⟩ := hq_83
        refine lv_goto (tgt := 91) hx hb dX6_hire_86 (by decide) ?_
        exact w_X6_hire_91 C hrc56 x1 x2 x3 x4 x5 x6 x7 x8 r83 _ hf _ _ _ hR hS (lv_sub hl [0, 1, 2, 3, 4, 5, 6, 7, 8] rfl)
set_option maxHeartbeats 4000000 in
set_option maxRecDepth 100000 in
theorem c_X6_hire (l : Launch) (G : GG) (x1 : Int32) (x2 : Int32) (x3 : Int32) (x4 : Int32) (x5 : Int32) (σ : St) (res : Int32 × St) (hf : f_X6_hire x1 x2 x3 x4 x5 σ = some res) : CI l yX6_hire wsX6_hire 4 [.ref (G.2.1 75), .int x1, .int x2, .int x3, .int x4, .int x5] G σ (fun r u => r = res.1 ∧ u = res.2) := by
  refine x_ent (ret := (some .int)) cX6_hire 11 (by decide) rfl (Nat.le_of_ble_eq_true rfl) ?_
  intro p e s m below meth c ls C hR hS hl
  have C : Cx p s m [.ref (G.2.1 75), .int x1, .int x2, .int x3, .int x4, .int x5].toArray meth c cX6_hire RX6 wsX6_hire (some .int) 11 G := C
  have hx := C.1
  have hb := C.2.1
  have hl : lv_has ls 11 [(0, .ref (G.2.1 75)), (1, .int x1), (2, .int x2), (3, .int x3), (4, .int x4), (5, .int x5)] := hl
  unfold f_X6_hire at hf
  refine lv_iload_n hx hb dX6_hire_0 rfl (lv_at hl 1 rfl) ?_
  refine lv_iload_n hx hb dX6_hire_1 rfl (lv_at hl 2 rfl) ?_
  refine lv_iload_n hx hb dX6_hire_2 rfl (lv_at hl 3 rfl) ?_
  obtain ⟨r3_, σ3_, hc_3, hf⟩ := bd_some hf
  refine x_csI C hl.1 hR hS (c_X6_isRun l G x1 x2 x3 σ _ hc_3) gX6_hire_X6_isRun rfl hdS_X6_isRun ⟨Nat.le_of_ble_eq_true rfl, Nat.le_of_ble_eq_true rfl⟩ rfl (As := [.int x1, .int x2, .int x3]) (rest := []) rfl (Nat.le_of_ble_eq_true rfl) ⟨Nat.le_of_ble_eq_true rfl, Nat.le_of_ble_eq_true rfl⟩ dX6_hire_3 (fun r3 σ3 H locs hq_3 hR hS => ?_)
  obtain ⟨rfl, rfl⟩ := hq_3
  refine lv_if_eq (tgt := 33) hx hb dX6_hire_6 (by decide) (fun c_6 => ?_) (fun c_6 => ?_)
  · replace hf := (if_pos c_6).symm.trans hf
    refine lv_aload_n hx hb dX6_hire_33 rfl (lv_at hl 0 rfl) ?_
    refine lv_bipush (v := (-2)) hx hb dX6_hire_34 (by decide) ?_
    obtain ⟨r36_, σ36_, hc_36, hf⟩ := bd_some hf
    refine x_cvI C hl.1 hR hS (c_X6_bad l G (-2) σ3 _ hc_36) gX6_hire_X6_bad rfl hdV_X6_bad ⟨Nat.le_of_ble_eq_true rfl, Nat.le_of_ble_eq_true rfl⟩ (by decide) (cz5 rfl) rfl rfl (As := [.int (-2)]) (rest := []) rfl (Nat.le_of_ble_eq_true rfl) ⟨Nat.le_of_ble_eq_true rfl, Nat.le_of_ble_eq_true rfl⟩ dX6_hire_36 (fun r36 σ36 H locs hq_36 hR hS => ?_)
    obtain ⟨rfl, rfl⟩ := hq_36
    obtain rfl := Option.some.inj hf
    exact x_iret C hR hS dX6_hire_39 ⟨rfl, rfl⟩
  · replace hf := (if_neg c_6).symm.trans hf
    refine lv_iload hx hb dX6_hire_9 (lv_at hl 4 rfl) ?_
    refine lv_i2l (v := x4.toInt64) hx hb dX6_hire_11 rfl ?_
    refine lv_lconst (v := 0) hx hb dX6_hire_12 (by decide) ?_
    refine lv_ldc2 (v := 3) hx hb C.2.2.2.2.1 (C.2.2.2.2.2.1 _ (List.mem_of_getElem? (i := 1) rfl)) dX6_hire_13 ?_
    obtain ⟨r16_, σ16_, hc_16, hf⟩ := bd_some hf
    refine x_csI C hl.1 hR hS (c_X6_in l G x4.toInt64 0 3 σ3 _ hc_16) gX6_hire_X6_in rfl hdS_X6_in ⟨Nat.le_of_ble_eq_true rfl, Nat.le_of_ble_eq_true rfl⟩ rfl (As := [.long x4.toInt64, .long 0, .long 3]) (rest := []) rfl (Nat.le_of_ble_eq_true rfl) ⟨Nat.le_of_ble_eq_true rfl, Nat.le_of_ble_eq_true rfl⟩ dX6_hire_16 (fun r16 σ16 H locs hq_16 hR hS => ?_)
    obtain ⟨rfl, rfl⟩ := hq_16
    refine lv_if_eq (tgt := 33) hx hb dX6_hire_19 (by decide) (fun c_19 => ?_) (fun c_19 => ?_)
    · replace hf := (if_pos c_19).symm.trans hf
      refine lv_aload_n hx hb dX6_hire_33 rfl (lv_at hl 0 rfl) ?_
      refine lv_bipush (v := (-2)) hx hb dX6_hire_34 (by decide) ?_
      obtain ⟨r36_, σ36_, hc_36, hf⟩ := bd_some hf
      refine x_cvI C hl.1 hR hS (c_X6_bad l G (-2) σ16 _ hc_36) gX6_hire_X6_bad rfl hdV_X6_bad ⟨Nat.le_of_ble_eq_true rfl, Nat.le_of_ble_eq_true rfl⟩ (by decide) (cz5 rfl) rfl rfl (As := [.int (-2)]) (rest := []) rfl (Nat.le_of_ble_eq_true rfl) ⟨Nat.le_of_ble_eq_true rfl, Nat.le_of_ble_eq_true rfl⟩ dX6_hire_36 (fun r36 σ36 H locs hq_36 hR hS => ?_)
      obtain ⟨rfl, rfl⟩ := hq_36
      obtain rfl := Option.some.inj hf
      exact x_iret C hR hS dX6_hire_39 ⟨rfl, rfl⟩
    · replace hf := (if_neg c_19).symm.trans hf
      refine lv_iload hx hb dX6_hire_22 (lv_at hl 5 rfl) ?_
      refine lv_i2l (v := x5.toInt64) hx hb dX6_hire_24 rfl ?_
      refine lv_lconst (v := 0) hx hb dX6_hire_25 (by decide) ?_
      refine lv_lconst (v := 1) hx hb dX6_hire_26 (by decide) ?_
      obtain ⟨r27_, σ27_, hc_27, hf⟩ := bd_some hf
      refine x_csI C hl.1 hR hS (c_X6_in l G x5.toInt64 0 1 σ16 _ hc_27) gX6_hire_X6_in rfl hdS_X6_in ⟨Nat.le_of_ble_eq_true rfl, Nat.le_of_ble_eq_true rfl⟩ rfl (As := [.long x5.toInt64, .long 0, .long 1]) (rest := []) rfl (Nat.le_of_ble_eq_true rfl) ⟨Nat.le_of_ble_eq_true rfl, Nat.le_of_ble_eq_true rfl⟩ dX6_hire_27 (fun r27 σ27 H locs hq_27 hR hS => ?_)
      obtain ⟨rfl, rfl⟩ := hq_27
      refine lv_if_ne (tgt := 40) hx hb dX6_hire_30 (by decide) (fun c_30 => ?_) (fun c_30 => ?_)
      · replace hf := (if_neg c_30).symm.trans hf
        refine lv_iconst (v := 0) hx hb dX6_hire_40 (by decide) ?_
        refine lv_istore (lv' := [(6, .int 0), (0, .ref (G.2.1 75)), (1, .int x1), (2, .int x2), (3, .int x3), (4, .int x4), (5, .int x5)]) hx hb dX6_hire_41 hl (by decide) rfl (fun ls hl => ?_)
        refine lv_aload_n hx hb dX6_hire_43 rfl (lv_at hl 1 rfl) ?_
        refine lv_iconst (v := 0) hx hb dX6_hire_44 (by decide) ?_
        refine lv_iload_n hx hb dX6_hire_45 rfl (lv_at hl 2 rfl) ?_
        refine lv_iload_n hx hb dX6_hire_46 rfl (lv_at hl 3 rfl) ?_
        refine lv_iload_n hx hb dX6_hire_47 rfl (lv_at hl 4 rfl) ?_
        obtain ⟨r48_, σ48_, hc_48, hf⟩ := bd_some hf
        refine x_cvI C hl.1 hR hS (c_X6_runWith l G 0 x1 x2 x3 σ27 _ hc_48) gX6_hire_X6_runWith rfl hdV_X6_runWith ⟨Nat.le_of_ble_eq_true rfl, Nat.le_of_ble_eq_true rfl⟩ (by decide) (cz5 rfl) rfl rfl (As := [.int 0, .int x1, .int x2, .int x3]) (rest := []) rfl (Nat.le_of_ble_eq_true rfl) ⟨Nat.le_of_ble_eq_true rfl, Nat.le_of_ble_eq_true rfl⟩ dX6_hire_48 (fun r48 σ48 H locs hq_48 hR hS => ?_)
        obtain ⟨rfl, rfl⟩ := hq_48
        refine lv_istore (lv' := [(7, .int r48), (6, .int 0), (0, .ref (G.2.1 75)), (1, .int x1), (2, .int x2), (3, .int x3), (4, .int x4), (5, .int x5)]) hx hb dX6_hire_51 hl (by decide) rfl (fun ls hl => ?_)
        refine lv_iconst (v := 1) hx hb dX6_hire_53 (by decide) ?_
        refine lv_istore (lv' := [(8, .int 1), (7, .int r48), (6, .int 0), (0, .ref (G.2.1 75)), (1, .int x1), (2, .int x2), (3, .int x3), (4, .int x4), (5, .int x5)]) hx hb dX6_hire_54 hl (by decide) rfl (fun ls hl => ?_)
        exact w_X6_hire_56 C  FU x1 x2 x3 x4 x5 0 r48 1 _ hf _ _ _ hR hS (lv_sub hl [3, 4, 5, 6, 7, 8, 2, 1, 0] rfl)
      · replace hf := (if_pos c_30).symm.trans hf
        refine lv_aload_n hx hb dX6_hire_33 rfl (lv_at hl 0 rfl) ?_
        refine lv_bipush (v := (-2)) hx hb dX6_hire_34 (by decide) ?_
        obtain ⟨r36_, σ36_, hc_36, hf⟩ := bd_some hf
        refine x_cvI C hl.1 hR hS (c_X6_bad l G (-2) σ27 _ hc_36) gX6_hire_X6_bad rfl hdV_X6_bad ⟨Nat.le_of_ble_eq_true rfl, Nat.le_of_ble_eq_true rfl⟩ (by decide) (cz5 rfl) rfl rfl (As := [.int (-2)]) (rest := []) rfl (Nat.le_of_ble_eq_true rfl) ⟨Nat.le_of_ble_eq_true rfl, Nat.le_of_ble_eq_true rfl⟩ dX6_hire_36 (fun r36 σ36 H locs hq_36 hR hS => ?_)
        obtain ⟨rfl, rfl⟩ := hq_36
        obtain rfl := Option.some.inj hf
        exact x_iret C hR hS dX6_hire_39 ⟨rfl, rfl⟩
theorem hdV_X6_dark : yX6_dark.cls = RX6 ∧ yX6_dark.cls ≠ "java/lang/invoke/MethodHandle" ∧ yX6_dark.cls ≠ "java/lang/invoke/VarHandle" ∧ (parseMethodDescriptor yX6_dark.desc).map (fun d => d.parameters.length) = some 4 := by decide +kernel
def f_X6_dark_73 (rc45 : Int32 → Int32 → Int32 → St → Option (Int32 × St)) (x4 : Int32) (x7 : Int32) (t0 : Int32) (t1 : Int32) (σ : St) : Option (Int32 × St) :=
  rc45 x4 (t1 + t0) (x7 + 1) σ
def f_X6_dark_45 : Nat → Int32 → Int32 → Int32 → St → Option (Int32 × St)
  | 0, _, _, _, _ => none
  | n + 1, x4, x6, x7, σ => bd (f_X6_locks σ) (fun r48 σ48 => (if r48 ≤ x7 then some (x6, σ48) else gd (x7 < 0 ∨ 8 ≤ x7.toNatClampNeg) ((if x4 < (sA σ48 83 x7.toNatClampNeg) then f_X6_dark_73 (f_X6_dark_45 n) x4 x7 0 x6 σ48 else f_X6_dark_73 (f_X6_dark_45 n) x4 x7 1 x6 σ48))))
def f_X6_dark (x1 : Int32) (x2 : Int32) (x3 : Int32) (x4 : Int32) (σ : St) : Option (Int32 × St) :=
  bd (f_X6_isRun x1 x2 x3 σ) (fun r3 σ3 => (if r3 = 0 then bd (f_X6_bad (-2) σ3) (fun r25 σ25 => some (r25, σ25)) else bd (f_X6_in x4.toInt64 0 999 σ3) (fun r16 σ16 => (if r16 = 0 then bd (f_X6_bad (-2) σ16) (fun r25 σ25 => some (r25, σ25)) else bd (f_X6_runNow x1 x2 x3 0 σ16) (fun r34 σ34 => f_X6_dark_45 FU x4 0 0 σ34)))))
set_option maxHeartbeats 4000000 in
set_option maxRecDepth 100000 in
theorem w_X6_dark_73 {p : Program} {l : Launch} {e : Env} {s : State} {m : MethodId} {args : Array Value} {below : List Frame} {meth : Method} {c : Code} {G : GG} (C : Cx p s m args meth c cX6_dark RX6 wsX6_dark (some .int) 8 G) {res : Int32 × St} {rc45 : Int32 → Int32 → Int32 → St → Option (Int32 × St)} (hrc45 : ∀ (x4 : Int32) (x6 : Int32) (x7 : Int32) (σ : St), rc45 x4 x6 x7 σ = some res → WC p l e 4 s m args below meth c G (QI G res) 8 45 [(0, .ref (G.2.1 75)), (4, .int x4), (6, .int x6), (7, .int x7)] [] σ) : ∀ (x4 : Int32) (x7 : Int32) (t0 : Int32) (t1 : Int32) (σ : St), f_X6_dark_73 rc45 x4 x7 t0 t1 σ = some res → WC p l e 4 s m args below meth c G (QI G res) 8 73 [(0, .ref (G.2.1 75)), (4, .int x4), (7, .int x7)] [.int t0, .int t1] σ := by
  have hx := C.1
  have hb := C.2.1
  have inX6 : ∀ w ∈ u_ws RX6 TX6 22, w ∈ wsX6_dark := fun w h => List.mem_cons_of_mem _ (List.mem_append_right _ h)
  intro x4 x7 t0 t1 σ hf _ _ _ hR hS hl
  unfold f_X6_dark_73 at hf
  refine lv_iadd hx hb dX6_dark_73 ?_
  refine lv_istore (lv' := [(6, .int (t1 + t0)), (0, .ref (G.2.1 75)), (4, .int x4), (7, .int x7)]) hx hb dX6_dark_74 hl (by decide) rfl (fun ls hl => ?_)
  refine lv_iinc (v := x7 + 1) (lv' := [(7, .int (x7 + 1)), (6, .int (t1 + t0)), (0, .ref (G.2.1 75)), (4, .int x4)]) hx hb dX6_dark_76 hl (k := 3) rfl rfl (by decide) rfl (fun ls hl => ?_)
  refine lv_goto (tgt := 45) hx hb dX6_dark_79 (by decide) ?_
  exact hrc45 x4 (t1 + t0) (x7 + 1) _ hf _ _ _ hR hS (lv_sub hl [2, 3, 1, 0] rfl)
set_option maxHeartbeats 4000000 in
set_option maxRecDepth 100000 in
theorem w_X6_dark_45 {p : Program} {l : Launch} {e : Env} {s : State} {m : MethodId} {args : Array Value} {below : List Frame} {meth : Method} {c : Code} {G : GG} (C : Cx p s m args meth c cX6_dark RX6 wsX6_dark (some .int) 8 G) {res : Int32 × St} : ∀ (n : Nat) (x4 : Int32) (x6 : Int32) (x7 : Int32) (σ : St), f_X6_dark_45 n x4 x6 x7 σ = some res → WC p l e 4 s m args below meth c G (QI G res) 8 45 [(0, .ref (G.2.1 75)), (4, .int x4), (6, .int x6), (7, .int x7)] [] σ := by
  have hx := C.1
  have hb := C.2.1
  have inX6 : ∀ w ∈ u_ws RX6 TX6 22, w ∈ wsX6_dark := fun w h => List.mem_cons_of_mem _ (List.mem_append_right _ h)
  intro n
  induction n with
  | zero => intro x4 x6 x7 σ hf; cases hf
  | succ n hrc45 =>
    intro x4 x6 x7 σ hf _ _ _ hR hS hl
    unfold f_X6_dark_45 at hf
    refine lv_iload hx hb dX6_dark_45 (lv_at hl 3 rfl) ?_
    refine lv_aload_n hx hb dX6_dark_47 rfl (lv_at hl 0 rfl) ?_
    obtain ⟨r48_, σ48_, hc_48, hf⟩ := bd_some hf
    refine x_cvI C hl.1 hR hS (c_X6_locks l G σ _ hc_48) gX6_dark_X6_locks rfl hdV_X6_locks ⟨Nat.le_of_ble_eq_true rfl, Nat.le_of_ble_eq_true rfl⟩ (by decide) (cz5 rfl) rfl rfl (As := []) (rest := [.int x7]) rfl (Nat.le_of_ble_eq_true rfl) ⟨Nat.le_of_ble_eq_true rfl, Nat.le_of_ble_eq_true rfl⟩ dX6_dark_48 (fun r48 σ48 H locs hq_48 hR hS => ?_)
    obtain ⟨rfl, rfl⟩ := hq_48
    refine lv_icmp_ge (tgt := 82) hx hb dX6_dark_51 (by decide) (fun c_51 => ?_) (fun c_51 => ?_)
    · replace hf := (if_pos c_51).symm.trans hf
      refine lv_iload hx hb dX6_dark_82 (lv_at hl 2 rfl) ?_
      obtain rfl := Option.some.inj hf
      exact x_iret C hR hS dX6_dark_84 ⟨rfl, rfl⟩
    · replace hf := (if_neg c_51).symm.trans hf
      refine lv_iload hx hb dX6_dark_54 (lv_at hl 2 rfl) ?_
      refine lv_aload_n hx hb dX6_dark_56 rfl (lv_at hl 0 rfl) ?_
      refine x_get C hR inX6 75 (by decide) (cz5 rfl) rfl 9 (by decide) 2 rfl (.ref (G.2.1 83)) rfl dX6_dark_57 ?_
      refine lv_iload hx hb dX6_dark_60 (lv_at hl 3 rfl) ?_
      obtain ⟨z_62, hf⟩ := gd_some hf
      refine x_iald C hR 83 rfl z_62 (n := x7.toNatClampNeg) rfl (sA σ48 83 x7.toNatClampNeg) rfl dX6_dark_62 ?_
      refine lv_iload hx hb dX6_dark_63 (lv_at hl 1 rfl) ?_
      refine lv_icmp_gt (tgt := 72) hx hb dX6_dark_65 (by decide) (fun c_65 => ?_) (fun c_65 => ?_)
      · replace hf := (if_pos c_65).symm.trans hf
        refine lv_iconst (v := 0) hx hb dX6_dark_72 (by decide) ?_
        exact w_X6_dark_73 C hrc45 x4 x7 0 x6 _ hf _ _ _ hR hS (lv_sub hl [0, 1, 3] rfl)
      · replace hf := (if_neg c_65).symm.trans hf
        refine lv_iconst (v := 1) hx hb dX6_dark_68 (by decide) ?_
        refine lv_goto (tgt := 73) hx hb dX6_dark_69 (by decide) ?_
        exact w_X6_dark_73 C hrc45 x4 x7 1 x6 _ hf _ _ _ hR hS (lv_sub hl [0, 1, 3] rfl)
set_option maxHeartbeats 4000000 in
set_option maxRecDepth 100000 in
theorem c_X6_dark (l : Launch) (G : GG) (x1 : Int32) (x2 : Int32) (x3 : Int32) (x4 : Int32) (σ : St) (res : Int32 × St) (hf : f_X6_dark x1 x2 x3 x4 σ = some res) : CI l yX6_dark wsX6_dark 4 [.ref (G.2.1 75), .int x1, .int x2, .int x3, .int x4] G σ (fun r u => r = res.1 ∧ u = res.2) := by
  refine x_ent (ret := (some .int)) cX6_dark 8 (by decide) rfl (Nat.le_of_ble_eq_true rfl) ?_
  intro p e s m below meth c ls C hR hS hl
  have C : Cx p s m [.ref (G.2.1 75), .int x1, .int x2, .int x3, .int x4].toArray meth c cX6_dark RX6 wsX6_dark (some .int) 8 G := C
  have hx := C.1
  have hb := C.2.1
  have hl : lv_has ls 8 [(0, .ref (G.2.1 75)), (1, .int x1), (2, .int x2), (3, .int x3), (4, .int x4)] := hl
  have inX6 : ∀ w ∈ u_ws RX6 TX6 22, w ∈ wsX6_dark := fun w h => List.mem_cons_of_mem _ (List.mem_append_right _ h)
  unfold f_X6_dark at hf
  refine lv_iload_n hx hb dX6_dark_0 rfl (lv_at hl 1 rfl) ?_
  refine lv_iload_n hx hb dX6_dark_1 rfl (lv_at hl 2 rfl) ?_
  refine lv_iload_n hx hb dX6_dark_2 rfl (lv_at hl 3 rfl) ?_
  obtain ⟨r3_, σ3_, hc_3, hf⟩ := bd_some hf
  refine x_csI C hl.1 hR hS (c_X6_isRun l G x1 x2 x3 σ _ hc_3) gX6_dark_X6_isRun rfl hdS_X6_isRun ⟨Nat.le_of_ble_eq_true rfl, Nat.le_of_ble_eq_true rfl⟩ rfl (As := [.int x1, .int x2, .int x3]) (rest := []) rfl (Nat.le_of_ble_eq_true rfl) ⟨Nat.le_of_ble_eq_true rfl, Nat.le_of_ble_eq_true rfl⟩ dX6_dark_3 (fun r3 σ3 H locs hq_3 hR hS => ?_)
  obtain ⟨rfl, rfl⟩ := hq_3
  refine lv_if_eq (tgt := 22) hx hb dX6_dark_6 (by decide) (fun c_6 => ?_) (fun c_6 => ?_)
  · replace hf := (if_pos c_6).symm.trans hf
    refine lv_aload_n hx hb dX6_dark_22 rfl (lv_at hl 0 rfl) ?_
    refine lv_bipush (v := (-2)) hx hb dX6_dark_23 (by decide) ?_
    obtain ⟨r25_, σ25_, hc_25, hf⟩ := bd_some hf
    refine x_cvI C hl.1 hR hS (c_X6_bad l G (-2) σ3 _ hc_25) gX6_dark_X6_bad rfl hdV_X6_bad ⟨Nat.le_of_ble_eq_true rfl, Nat.le_of_ble_eq_true rfl⟩ (by decide) (cz5 rfl) rfl rfl (As := [.int (-2)]) (rest := []) rfl (Nat.le_of_ble_eq_true rfl) ⟨Nat.le_of_ble_eq_true rfl, Nat.le_of_ble_eq_true rfl⟩ dX6_dark_25 (fun r25 σ25 H locs hq_25 hR hS => ?_)
    obtain ⟨rfl, rfl⟩ := hq_25
    obtain rfl := Option.some.inj hf
    exact x_iret C hR hS dX6_dark_28 ⟨rfl, rfl⟩
  · replace hf := (if_neg c_6).symm.trans hf
    refine lv_iload hx hb dX6_dark_9 (lv_at hl 4 rfl) ?_
    refine lv_i2l (v := x4.toInt64) hx hb dX6_dark_11 rfl ?_
    refine lv_lconst (v := 0) hx hb dX6_dark_12 (by decide) ?_
    refine lv_ldc2 (v := 999) hx hb C.2.2.2.2.1 (C.2.2.2.2.2.1 _ (List.mem_of_getElem? (i := 1) rfl)) dX6_dark_13 ?_
    obtain ⟨r16_, σ16_, hc_16, hf⟩ := bd_some hf
    refine x_csI C hl.1 hR hS (c_X6_in l G x4.toInt64 0 999 σ3 _ hc_16) gX6_dark_X6_in rfl hdS_X6_in ⟨Nat.le_of_ble_eq_true rfl, Nat.le_of_ble_eq_true rfl⟩ rfl (As := [.long x4.toInt64, .long 0, .long 999]) (rest := []) rfl (Nat.le_of_ble_eq_true rfl) ⟨Nat.le_of_ble_eq_true rfl, Nat.le_of_ble_eq_true rfl⟩ dX6_dark_16 (fun r16 σ16 H locs hq_16 hR hS => ?_)
    obtain ⟨rfl, rfl⟩ := hq_16
    refine lv_if_ne (tgt := 29) hx hb dX6_dark_19 (by decide) (fun c_19 => ?_) (fun c_19 => ?_)
    · replace hf := (if_neg c_19).symm.trans hf
      refine lv_aload_n hx hb dX6_dark_29 rfl (lv_at hl 0 rfl) ?_
      refine lv_iload_n hx hb dX6_dark_30 rfl (lv_at hl 1 rfl) ?_
      refine lv_iload_n hx hb dX6_dark_31 rfl (lv_at hl 2 rfl) ?_
      refine lv_iload_n hx hb dX6_dark_32 rfl (lv_at hl 3 rfl) ?_
      refine lv_iconst (v := 0) hx hb dX6_dark_33 (by decide) ?_
      obtain ⟨r34_, σ34_, hc_34, hf⟩ := bd_some hf
      refine x_cvI C hl.1 hR hS (c_X6_runNow l G x1 x2 x3 0 σ16 _ hc_34) gX6_dark_X6_runNow rfl hdV_X6_runNow ⟨Nat.le_of_ble_eq_true rfl, Nat.le_of_ble_eq_true rfl⟩ (by decide) (cz5 rfl) rfl rfl (As := [.int x1, .int x2, .int x3, .int 0]) (rest := []) rfl (Nat.le_of_ble_eq_true rfl) ⟨Nat.le_of_ble_eq_true rfl, Nat.le_of_ble_eq_true rfl⟩ dX6_dark_34 (fun r34 σ34 H locs hq_34 hR hS => ?_)
      obtain ⟨rfl, rfl⟩ := hq_34
      refine lv_istore (lv' := [(5, .int r34), (0, .ref (G.2.1 75)), (1, .int x1), (2, .int x2), (3, .int x3), (4, .int x4)]) hx hb dX6_dark_37 hl (by decide) rfl (fun ls hl => ?_)
      refine lv_iconst (v := 0) hx hb dX6_dark_39 (by decide) ?_
      refine lv_istore (lv' := [(6, .int 0), (5, .int r34), (0, .ref (G.2.1 75)), (1, .int x1), (2, .int x2), (3, .int x3), (4, .int x4)]) hx hb dX6_dark_40 hl (by decide) rfl (fun ls hl => ?_)
      refine lv_iconst (v := 0) hx hb dX6_dark_42 (by decide) ?_
      refine lv_istore (lv' := [(7, .int 0), (6, .int 0), (5, .int r34), (0, .ref (G.2.1 75)), (1, .int x1), (2, .int x2), (3, .int x3), (4, .int x4)]) hx hb dX6_dark_43 hl (by decide) rfl (fun ls hl => ?_)
      exact w_X6_dark_45 C  FU x4 0 0 _ hf _ _ _ hR hS (lv_sub hl [3, 7, 1, 0] rfl)
    · replace hf := (if_pos c_19).symm.trans hf
      refine lv_aload_n hx hb dX6_dark_22 rfl (lv_at hl 0 rfl) ?_
      refine lv_bipush (v := (-2)) hx hb dX6_dark_23 (by decide) ?_
      obtain ⟨r25_, σ25_, hc_25, hf⟩ := bd_some hf
      refine x_cvI C hl.1 hR hS (c_X6_bad l G (-2) σ16 _ hc_25) gX6_dark_X6_bad rfl hdV_X6_bad ⟨Nat.le_of_ble_eq_true rfl, Nat.le_of_ble_eq_true rfl⟩ (by decide) (cz5 rfl) rfl rfl (As := [.int (-2)]) (rest := []) rfl (Nat.le_of_ble_eq_true rfl) ⟨Nat.le_of_ble_eq_true rfl, Nat.le_of_ble_eq_true rfl⟩ dX6_dark_25 (fun r25 σ25 H locs hq_25 hR hS => ?_)
      obtain ⟨rfl, rfl⟩ := hq_25
      obtain rfl := Option.some.inj hf
      exact x_iret C hR hS dX6_dark_28 ⟨rfl, rfl⟩
theorem hdV_X6_waits : yX6_waits.cls = RX6 ∧ yX6_waits.cls ≠ "java/lang/invoke/MethodHandle" ∧ yX6_waits.cls ≠ "java/lang/invoke/VarHandle" ∧ (parseMethodDescriptor yX6_waits.desc).map (fun d => d.parameters.length) = some 5 := by decide +kernel
def f_X6_waits_45 : Nat → Int32 → Int32 → Int32 → Int32 → Int32 → Int32 → St → Option (Int32 × St)
  | 0, _, _, _, _, _, _, _ => none
  | n + 1, x1, x2, x3, x5, x6, x7, σ => bd (f_X6_locks σ) (fun r48 σ48 => (if r48 ≤ x7 then bd (f_X6_runWith x6 x1 x2 x3 σ48) (fun r82 σ82 => bd (f_X6_runNow x1 x2 x3 0 σ82) (fun r93 σ93 => (if r93 ≤ (x5 + r82) then (if (x5 + r82) ≤ r93 then some (0, σ93) else some ((-1), σ93)) else some (1, σ93)))) else bd (f_X6_lockAt x1 x7 σ48) (fun r61 σ61 => (f_X6_waits_45 n) x1 x2 x3 x5 (x6 ||| (1 <<< (r61 &&& 31))) (x7 + 1) σ61)))
def f_X6_waits (x1 : Int32) (x2 : Int32) (x3 : Int32) (x4 : Int32) (x5 : Int32) (σ : St) : Option (Int32 × St) :=
  bd (f_X6_isRun x1 x2 x3 σ) (fun r3 σ3 => (if r3 = 0 then bd (f_X6_bad (-2) σ3) (fun r34 σ34 => some (r34, σ34)) else bd (f_X6_isLock x4 σ3) (fun r12 σ12 => (if r12 = 0 then bd (f_X6_bad (-2) σ12) (fun r34 σ34 => some (r34, σ34)) else bd (f_X6_in x5.toInt64 0 60 σ12) (fun r25 σ25 => (if r25 = 0 then bd (f_X6_bad (-2) σ25) (fun r34 σ34 => some (r34, σ34)) else f_X6_waits_45 FU x1 x2 x3 x5 0 x4 σ25))))))
set_option maxHeartbeats 4000000 in
set_option maxRecDepth 100000 in
theorem w_X6_waits_45 {p : Program} {l : Launch} {e : Env} {s : State} {m : MethodId} {args : Array Value} {below : List Frame} {meth : Method} {c : Code} {G : GG} (C : Cx p s m args meth c cX6_waits RX6 wsX6_waits (some .int) 9 G) {res : Int32 × St} : ∀ (n : Nat) (x1 : Int32) (x2 : Int32) (x3 : Int32) (x5 : Int32) (x6 : Int32) (x7 : Int32) (σ : St), f_X6_waits_45 n x1 x2 x3 x5 x6 x7 σ = some res → WC p l e 4 s m args below meth c G (QI G res) 9 45 [(0, .ref (G.2.1 75)), (1, .int x1), (2, .int x2), (3, .int x3), (5, .int x5), (6, .int x6), (7, .int x7)] [] σ := by
  have hx := C.1
  have hb := C.2.1
  intro n
  induction n with
  | zero => intro x1 x2 x3 x5 x6 x7 σ hf; cases hf
  | succ n hrc45 =>
    intro x1 x2 x3 x5 x6 x7 σ hf _ _ _ hR hS hl
    unfold f_X6_waits_45 at hf
    refine lv_iload hx hb dX6_waits_45 (lv_at hl 6 rfl) ?_
    refine lv_aload_n hx hb dX6_waits_47 rfl (lv_at hl 0 rfl) ?_
    obtain ⟨r48_, σ48_, hc_48, hf⟩ := bd_some hf
    refine x_cvI C hl.1 hR hS (c_X6_locks l G σ _ hc_48) gX6_waits_X6_locks rfl hdV_X6_locks ⟨Nat.le_of_ble_eq_true rfl, Nat.le_of_ble_eq_true rfl⟩ (by decide) (cz5 rfl) rfl rfl (As := []) (rest := [.int x7]) rfl (Nat.le_of_ble_eq_true rfl) ⟨Nat.le_of_ble_eq_true rfl, Nat.le_of_ble_eq_true rfl⟩ dX6_waits_48 (fun r48 σ48 H locs hq_48 hR hS => ?_)
    obtain ⟨rfl, rfl⟩ := hq_48
    refine lv_icmp_ge (tgt := 74) hx hb dX6_waits_51 (by decide) (fun c_51 => ?_) (fun c_51 => ?_)
    · replace hf := (if_pos c_51).symm.trans hf
      refine lv_iload hx hb dX6_waits_74 (lv_at hl 4 rfl) ?_
      refine lv_aload_n hx hb dX6_waits_76 rfl (lv_at hl 0 rfl) ?_
      refine lv_iload hx hb dX6_waits_77 (lv_at hl 5 rfl) ?_
      refine lv_iload_n hx hb dX6_waits_79 rfl (lv_at hl 1 rfl) ?_
      refine lv_iload_n hx hb dX6_waits_80 rfl (lv_at hl 2 rfl) ?_
      refine lv_iload_n hx hb dX6_waits_81 rfl (lv_at hl 3 rfl) ?_
      obtain ⟨r82_, σ82_, hc_82, hf⟩ := bd_some hf
      refine x_cvI C hl.1 hR hS (c_X6_runWith l G x6 x1 x2 x3 σ48 _ hc_82) gX6_waits_X6_runWith rfl hdV_X6_runWith ⟨Nat.le_of_ble_eq_true rfl, Nat.le_of_ble_eq_true rfl⟩ (by decide) (cz5 rfl) rfl rfl (As := [.int x6, .int x1, .int x2, .int x3]) (rest := [.int x5]) rfl (Nat.le_of_ble_eq_true rfl) ⟨Nat.le_of_ble_eq_true rfl, Nat.le_of_ble_eq_true rfl⟩ dX6_waits_82 (fun r82 σ82 H locs hq_82 hR hS => ?_)
      obtain ⟨rfl, rfl⟩ := hq_82
      refine lv_iadd hx hb dX6_waits_85 ?_
      refine lv_istore (lv' := [(7, .int (x5 + r82)), (0, .ref (G.2.1 75)), (1, .int x1), (2, .int x2), (3, .int x3), (5, .int x5), (6, .int x6)]) hx hb dX6_waits_86 hl (by decide) rfl (fun ls hl => ?_)
      refine lv_aload_n hx hb dX6_waits_88 rfl (lv_at hl 1 rfl) ?_
      refine lv_iload_n hx hb dX6_waits_89 rfl (lv_at hl 2 rfl) ?_
      refine lv_iload_n hx hb dX6_waits_90 rfl (lv_at hl 3 rfl) ?_
      refine lv_iload_n hx hb dX6_waits_91 rfl (lv_at hl 4 rfl) ?_
      refine lv_iconst (v := 0) hx hb dX6_waits_92 (by decide) ?_
      obtain ⟨r93_, σ93_, hc_93, hf⟩ := bd_some hf
      refine x_cvI C hl.1 hR hS (c_X6_runNow l G x1 x2 x3 0 σ82 _ hc_93) gX6_waits_X6_runNow rfl hdV_X6_runNow ⟨Nat.le_of_ble_eq_true rfl, Nat.le_of_ble_eq_true rfl⟩ (by decide) (cz5 rfl) rfl rfl (As := [.int x1, .int x2, .int x3, .int 0]) (rest := []) rfl (Nat.le_of_ble_eq_true rfl) ⟨Nat.le_of_ble_eq_true rfl, Nat.le_of_ble_eq_true rfl⟩ dX6_waits_93 (fun r93 σ93 H locs hq_93 hR hS => ?_)
      obtain ⟨rfl, rfl⟩ := hq_93
      refine lv_istore (lv' := [(8, .int r93), (7, .int (x5 + r82)), (0, .ref (G.2.1 75)), (1, .int x1), (2, .int x2), (3, .int x3), (5, .int x5), (6, .int x6)]) hx hb dX6_waits_96 hl (by decide) rfl (fun ls hl => ?_)
      refine lv_iload hx hb dX6_waits_98 (lv_at hl 1 rfl) ?_
      refine lv_iload hx hb dX6_waits_100 (lv_at hl 0 rfl) ?_
      refine lv_icmp_ge (tgt := 109) hx hb dX6_waits_102 (by decide) (fun c_102 => ?_) (fun c_102 => ?_)
      · replace hf := (if_pos c_102).symm.trans hf
        refine lv_iload hx hb dX6_waits_109 (lv_at hl 1 rfl) ?_
        refine lv_iload hx hb dX6_waits_111 (lv_at hl 0 rfl) ?_
        refine lv_icmp_le (tgt := 120) hx hb dX6_waits_113 (by decide) (fun c_113 => ?_) (fun c_113 => ?_)
        · replace hf := (if_pos c_113).symm.trans hf
          refine lv_iconst (v := 0) hx hb dX6_waits_120 (by decide) ?_
          obtain rfl := Option.some.inj hf
          exact x_iret C hR hS dX6_waits_121 ⟨rfl, rfl⟩
        · replace hf := (if_neg c_113).symm.trans hf
          refine lv_iconst (v := (-1)) hx hb dX6_waits_116 (by decide) ?_
          refine lv_goto (tgt := 121) hx hb dX6_waits_117 (by decide) ?_
          obtain rfl := Option.some.inj hf
          exact x_iret C hR hS dX6_waits_121 ⟨rfl, rfl⟩
      · replace hf := (if_neg c_102).symm.trans hf
        refine lv_iconst (v := 1) hx hb dX6_waits_105 (by decide) ?_
        refine lv_goto (tgt := 121) hx hb dX6_waits_106 (by decide) ?_
        obtain rfl := Option.some.inj hf
        exact x_iret C hR hS dX6_waits_121 ⟨rfl, rfl⟩
    · replace hf := (if_neg c_51).symm.trans hf
      refine lv_iload hx hb dX6_waits_54 (lv_at hl 5 rfl) ?_
      refine lv_iconst (v := 1) hx hb dX6_waits_56 (by decide) ?_
      refine lv_aload_n hx hb dX6_waits_57 rfl (lv_at hl 0 rfl) ?_
      refine lv_iload_n hx hb dX6_waits_58 rfl (lv_at hl 1 rfl) ?_
      refine lv_iload hx hb dX6_waits_59 (lv_at hl 6 rfl) ?_
      obtain ⟨r61_, σ61_, hc_61, hf⟩ := bd_some hf
      refine x_cvI C hl.1 hR hS (c_X6_lockAt l G x1 x7 σ48 _ hc_61) gX6_waits_X6_lockAt rfl hdV_X6_lockAt ⟨Nat.le_of_ble_eq_true rfl, Nat.le_of_ble_eq_true rfl⟩ (by decide) (cz5 rfl) rfl rfl (As := [.int x1, .int x7]) (rest := [.int 1, .int x6]) rfl (Nat.le_of_ble_eq_true rfl) ⟨Nat.le_of_ble_eq_true rfl, Nat.le_of_ble_eq_true rfl⟩ dX6_waits_61 (fun r61 σ61 H locs hq_61 hR hS => ?_)
      obtain ⟨rfl, rfl⟩ := hq_61
      refine lv_ishl hx hb dX6_waits_64 ?_
      refine lv_ior hx hb dX6_waits_65 ?_
      refine lv_istore (lv' := [(6, .int (x6 ||| (1 <<< (r61 &&& 31)))), (0, .ref (G.2.1 75)), (1, .int x1), (2, .int x2), (3, .int x3), (5, .int x5), (7, .int x7)]) hx hb dX6_waits_66 hl (by decide) rfl (fun ls hl => ?_)
      refine lv_iinc (v := x7 + 1) (lv' := [(7, .int (x7 + 1)), (6, .int (x6 ||| (1 <<< (r61 &&& 31)))), (0, .ref (G.2.1 75)), (1, .int x1), (2, .int x2), (3, .int x3), (5, .int x5)]) hx hb dX6_waits_68 hl (k := 6) rfl rfl (by decide) rfl (fun ls hl => ?_)
      refine lv_goto (tgt := 45) hx hb dX6_waits_71 (by decide) ?_
      exact hrc45 x1 x2 x3 x5 (x6 ||| (1 <<< (r61 &&& 31))) (x7 + 1) _ hf _ _ _ hR hS (lv_sub hl [2, 3, 4, 5, 6, 1, 0] rfl)
set_option maxHeartbeats 4000000 in
set_option maxRecDepth 100000 in
theorem c_X6_waits (l : Launch) (G : GG) (x1 : Int32) (x2 : Int32) (x3 : Int32) (x4 : Int32) (x5 : Int32) (σ : St) (res : Int32 × St) (hf : f_X6_waits x1 x2 x3 x4 x5 σ = some res) : CI l yX6_waits wsX6_waits 4 [.ref (G.2.1 75), .int x1, .int x2, .int x3, .int x4, .int x5] G σ (fun r u => r = res.1 ∧ u = res.2) := by
  refine x_ent (ret := (some .int)) cX6_waits 9 (by decide) rfl (Nat.le_of_ble_eq_true rfl) ?_
  intro p e s m below meth c ls C hR hS hl
  have C : Cx p s m [.ref (G.2.1 75), .int x1, .int x2, .int x3, .int x4, .int x5].toArray meth c cX6_waits RX6 wsX6_waits (some .int) 9 G := C
  have hx := C.1
  have hb := C.2.1
  have hl : lv_has ls 9 [(0, .ref (G.2.1 75)), (1, .int x1), (2, .int x2), (3, .int x3), (4, .int x4), (5, .int x5)] := hl
  unfold f_X6_waits at hf
  refine lv_iload_n hx hb dX6_waits_0 rfl (lv_at hl 1 rfl) ?_
  refine lv_iload_n hx hb dX6_waits_1 rfl (lv_at hl 2 rfl) ?_
  refine lv_iload_n hx hb dX6_waits_2 rfl (lv_at hl 3 rfl) ?_
  obtain ⟨r3_, σ3_, hc_3, hf⟩ := bd_some hf
  refine x_csI C hl.1 hR hS (c_X6_isRun l G x1 x2 x3 σ _ hc_3) gX6_waits_X6_isRun rfl hdS_X6_isRun ⟨Nat.le_of_ble_eq_true rfl, Nat.le_of_ble_eq_true rfl⟩ rfl (As := [.int x1, .int x2, .int x3]) (rest := []) rfl (Nat.le_of_ble_eq_true rfl) ⟨Nat.le_of_ble_eq_true rfl, Nat.le_of_ble_eq_true rfl⟩ dX6_waits_3 (fun r3 σ3 H locs hq_3 hR hS => ?_)
  obtain ⟨rfl, rfl⟩ := hq_3
  refine lv_if_eq (tgt := 31) hx hb dX6_waits_6 (by decide) (fun c_6 => ?_) (fun c_6 => ?_)
  · replace hf := (if_pos c_6).symm.trans hf
    refine lv_aload_n hx hb dX6_waits_31 rfl (lv_at hl 0 rfl) ?_
    refine lv_bipush (v := (-2)) hx hb dX6_waits_32 (by decide) ?_
    obtain ⟨r34_, σ34_, hc_34, hf⟩ := bd_some hf
    refine x_cvI C hl.1 hR hS (c_X6_bad l G (-2) σ3 _ hc_34) gX6_waits_X6_bad rfl hdV_X6_bad ⟨Nat.le_of_ble_eq_true rfl, Nat.le_of_ble_eq_true rfl⟩ (by decide) (cz5 rfl) rfl rfl (As := [.int (-2)]) (rest := []) rfl (Nat.le_of_ble_eq_true rfl) ⟨Nat.le_of_ble_eq_true rfl, Nat.le_of_ble_eq_true rfl⟩ dX6_waits_34 (fun r34 σ34 H locs hq_34 hR hS => ?_)
    obtain ⟨rfl, rfl⟩ := hq_34
    obtain rfl := Option.some.inj hf
    exact x_iret C hR hS dX6_waits_37 ⟨rfl, rfl⟩
  · replace hf := (if_neg c_6).symm.trans hf
    refine lv_aload_n hx hb dX6_waits_9 rfl (lv_at hl 0 rfl) ?_
    refine lv_iload hx hb dX6_waits_10 (lv_at hl 4 rfl) ?_
    obtain ⟨r12_, σ12_, hc_12, hf⟩ := bd_some hf
    refine x_cvI C hl.1 hR hS (c_X6_isLock l G x4 σ3 _ hc_12) gX6_waits_X6_isLock rfl hdV_X6_isLock ⟨Nat.le_of_ble_eq_true rfl, Nat.le_of_ble_eq_true rfl⟩ (by decide) (cz5 rfl) rfl rfl (As := [.int x4]) (rest := []) rfl (Nat.le_of_ble_eq_true rfl) ⟨Nat.le_of_ble_eq_true rfl, Nat.le_of_ble_eq_true rfl⟩ dX6_waits_12 (fun r12 σ12 H locs hq_12 hR hS => ?_)
    obtain ⟨rfl, rfl⟩ := hq_12
    refine lv_if_eq (tgt := 31) hx hb dX6_waits_15 (by decide) (fun c_15 => ?_) (fun c_15 => ?_)
    · replace hf := (if_pos c_15).symm.trans hf
      refine lv_aload_n hx hb dX6_waits_31 rfl (lv_at hl 0 rfl) ?_
      refine lv_bipush (v := (-2)) hx hb dX6_waits_32 (by decide) ?_
      obtain ⟨r34_, σ34_, hc_34, hf⟩ := bd_some hf
      refine x_cvI C hl.1 hR hS (c_X6_bad l G (-2) σ12 _ hc_34) gX6_waits_X6_bad rfl hdV_X6_bad ⟨Nat.le_of_ble_eq_true rfl, Nat.le_of_ble_eq_true rfl⟩ (by decide) (cz5 rfl) rfl rfl (As := [.int (-2)]) (rest := []) rfl (Nat.le_of_ble_eq_true rfl) ⟨Nat.le_of_ble_eq_true rfl, Nat.le_of_ble_eq_true rfl⟩ dX6_waits_34 (fun r34 σ34 H locs hq_34 hR hS => ?_)
      obtain ⟨rfl, rfl⟩ := hq_34
      obtain rfl := Option.some.inj hf
      exact x_iret C hR hS dX6_waits_37 ⟨rfl, rfl⟩
    · replace hf := (if_neg c_15).symm.trans hf
      refine lv_iload hx hb dX6_waits_18 (lv_at hl 5 rfl) ?_
      refine lv_i2l (v := x5.toInt64) hx hb dX6_waits_20 rfl ?_
      refine lv_lconst (v := 0) hx hb dX6_waits_21 (by decide) ?_
      refine lv_ldc2 (v := 60) hx hb C.2.2.2.2.1 (C.2.2.2.2.2.1 _ (List.mem_of_getElem? (i := 1) rfl)) dX6_waits_22 ?_
      obtain ⟨r25_, σ25_, hc_25, hf⟩ := bd_some hf
      refine x_csI C hl.1 hR hS (c_X6_in l G x5.toInt64 0 60 σ12 _ hc_25) gX6_waits_X6_in rfl hdS_X6_in ⟨Nat.le_of_ble_eq_true rfl, Nat.le_of_ble_eq_true rfl⟩ rfl (As := [.long x5.toInt64, .long 0, .long 60]) (rest := []) rfl (Nat.le_of_ble_eq_true rfl) ⟨Nat.le_of_ble_eq_true rfl, Nat.le_of_ble_eq_true rfl⟩ dX6_waits_25 (fun r25 σ25 H locs hq_25 hR hS => ?_)
      obtain ⟨rfl, rfl⟩ := hq_25
      refine lv_if_ne (tgt := 38) hx hb dX6_waits_28 (by decide) (fun c_28 => ?_) (fun c_28 => ?_)
      · replace hf := (if_neg c_28).symm.trans hf
        refine lv_iconst (v := 0) hx hb dX6_waits_38 (by decide) ?_
        refine lv_istore (lv' := [(6, .int 0), (0, .ref (G.2.1 75)), (1, .int x1), (2, .int x2), (3, .int x3), (4, .int x4), (5, .int x5)]) hx hb dX6_waits_39 hl (by decide) rfl (fun ls hl => ?_)
        refine lv_iload hx hb dX6_waits_41 (lv_at hl 5 rfl) ?_
        refine lv_istore (lv' := [(7, .int x4), (6, .int 0), (0, .ref (G.2.1 75)), (1, .int x1), (2, .int x2), (3, .int x3), (4, .int x4), (5, .int x5)]) hx hb dX6_waits_43 hl (by decide) rfl (fun ls hl => ?_)
        exact w_X6_waits_45 C  FU x1 x2 x3 x5 0 x4 _ hf _ _ _ hR hS (lv_sub hl [2, 3, 4, 5, 7, 1, 0] rfl)
      · replace hf := (if_pos c_28).symm.trans hf
        refine lv_aload_n hx hb dX6_waits_31 rfl (lv_at hl 0 rfl) ?_
        refine lv_bipush (v := (-2)) hx hb dX6_waits_32 (by decide) ?_
        obtain ⟨r34_, σ34_, hc_34, hf⟩ := bd_some hf
        refine x_cvI C hl.1 hR hS (c_X6_bad l G (-2) σ25 _ hc_34) gX6_waits_X6_bad rfl hdV_X6_bad ⟨Nat.le_of_ble_eq_true rfl, Nat.le_of_ble_eq_true rfl⟩ (by decide) (cz5 rfl) rfl rfl (As := [.int (-2)]) (rest := []) rfl (Nat.le_of_ble_eq_true rfl) ⟨Nat.le_of_ble_eq_true rfl, Nat.le_of_ble_eq_true rfl⟩ dX6_waits_34 (fun r34 σ34 H locs hq_34 hR hS => ?_)
        obtain ⟨rfl, rfl⟩ := hq_34
        obtain rfl := Option.some.inj hf
        exact x_iret C hR hS dX6_waits_37 ⟨rfl, rfl⟩
theorem hdV_X6_share : yX6_share.cls = RX6 ∧ yX6_share.cls ≠ "java/lang/invoke/MethodHandle" ∧ yX6_share.cls ≠ "java/lang/invoke/VarHandle" ∧ (parseMethodDescriptor yX6_share.desc).map (fun d => d.parameters.length) = some 4 := by decide +kernel
def f_X6_share_107 (x5 : Int32) (x7 : Int32) (t0 : Int32) (σ : St) : Option (Int32 × St) :=
  some ((t0 + x7) - x5, σ)
def f_X6_share_60 : Nat → Int32 → Int32 → Int32 → Int32 → Int32 → Int32 → Int32 → St → Option (Int32 × St)
  | 0, _, _, _, _, _, _, _, _ => none
  | n + 1, x1, x2, x3, x4, x5, x6, x7, σ => (if 8 ≤ x7 then bd (f_X6_goRun x1 x2 x3 0 σ) (fun r88 σ88 => (if x6 ≤ x4 then f_X6_share_107 x5 r88 x4 σ88 else f_X6_share_107 x5 r88 x6 σ88)) else gd (x7 < 0 ∨ 8 ≤ x7.toNatClampNeg) ((f_X6_share_60 n) x1 x2 x3 x4 x5 x6 (x7 + 1) (pA σ 80 x7.toNatClampNeg (1 - x1))))
def f_X6_share (x1 : Int32) (x2 : Int32) (x3 : Int32) (x4 : Int32) (σ : St) : Option (Int32 × St) :=
  bd (f_X6_isRun x1 x2 x3 σ) (fun r3 σ3 => (if r3 = 0 then bd (f_X6_bad (-1000) σ3) (fun r26 σ26 => some (r26, σ26)) else bd (f_X6_in x4.toInt64 0 60 σ3) (fun r16 σ16 => (if r16 = 0 then bd (f_X6_bad (-1000) σ16) (fun r26 σ26 => some (r26, σ26)) else bv (f_X6_layHand σ16) (fun σ31 => bd (f_X6_goRun x1 x2 x3 3 σ31) (fun r41 σ41 => bd (f_X6_runNow x1 x2 x3 0 σ41) (fun r52 σ52 => f_X6_share_60 FU x1 x2 x3 x4 (x4 + r41) r52 0 σ52)))))))
set_option maxHeartbeats 4000000 in
set_option maxRecDepth 100000 in
theorem w_X6_share_107 {p : Program} {l : Launch} {e : Env} {s : State} {m : MethodId} {args : Array Value} {below : List Frame} {meth : Method} {c : Code} {G : GG} (C : Cx p s m args meth c cX6_share RX6 wsX6_share (some .int) 8 G) {res : Int32 × St} : ∀ (x5 : Int32) (x7 : Int32) (t0 : Int32) (σ : St), f_X6_share_107 x5 x7 t0 σ = some res → WC p l e 4 s m args below meth c G (QI G res) 8 107 [(5, .int x5), (7, .int x7)] [.int t0] σ := by
  have hx := C.1
  have hb := C.2.1
  have inX6 : ∀ w ∈ u_ws RX6 TX6 22, w ∈ wsX6_share := fun w h => List.mem_cons_of_mem _ (List.mem_append_right _ h)
  intro x5 x7 t0 σ hf _ _ _ hR hS hl
  unfold f_X6_share_107 at hf
  refine lv_iload hx hb dX6_share_107 (lv_at hl 1 rfl) ?_
  refine lv_iadd hx hb dX6_share_109 ?_
  refine lv_iload hx hb dX6_share_110 (lv_at hl 0 rfl) ?_
  refine lv_isub hx hb dX6_share_112 ?_
  obtain rfl := Option.some.inj hf
  exact x_iret C hR hS dX6_share_113 ⟨rfl, rfl⟩
set_option maxHeartbeats 4000000 in
set_option maxRecDepth 100000 in
theorem w_X6_share_60 {p : Program} {l : Launch} {e : Env} {s : State} {m : MethodId} {args : Array Value} {below : List Frame} {meth : Method} {c : Code} {G : GG} (C : Cx p s m args meth c cX6_share RX6 wsX6_share (some .int) 8 G) {res : Int32 × St} : ∀ (n : Nat) (x1 : Int32) (x2 : Int32) (x3 : Int32) (x4 : Int32) (x5 : Int32) (x6 : Int32) (x7 : Int32) (σ : St), f_X6_share_60 n x1 x2 x3 x4 x5 x6 x7 σ = some res → WC p l e 4 s m args below meth c G (QI G res) 8 60 [(0, .ref (G.2.1 75)), (1, .int x1), (2, .int x2), (3, .int x3), (4, .int x4), (5, .int x5), (6, .int x6), (7, .int x7)] [] σ := by
  have hx := C.1
  have hb := C.2.1
  have inX6 : ∀ w ∈ u_ws RX6 TX6 22, w ∈ wsX6_share := fun w h => List.mem_cons_of_mem _ (List.mem_append_right _ h)
  intro n
  induction n with
  | zero => intro x1 x2 x3 x4 x5 x6 x7 σ hf; cases hf
  | succ n hrc60 =>
    intro x1 x2 x3 x4 x5 x6 x7 σ hf _ _ _ hR hS hl
    unfold f_X6_share_60 at hf
    refine lv_iload hx hb dX6_share_60 (lv_at hl 7 rfl) ?_
    refine lv_bipush (v := 8) hx hb dX6_share_62 (by decide) ?_
    refine lv_icmp_ge (tgt := 83) hx hb dX6_share_64 (by decide) (fun c_64 => ?_) (fun c_64 => ?_)
    · replace hf := (if_pos c_64).symm.trans hf
      refine lv_aload_n hx hb dX6_share_83 rfl (lv_at hl 0 rfl) ?_
      refine lv_iload_n hx hb dX6_share_84 rfl (lv_at hl 1 rfl) ?_
      refine lv_iload_n hx hb dX6_share_85 rfl (lv_at hl 2 rfl) ?_
      refine lv_iload_n hx hb dX6_share_86 rfl (lv_at hl 3 rfl) ?_
      refine lv_iconst (v := 0) hx hb dX6_share_87 (by decide) ?_
      obtain ⟨r88_, σ88_, hc_88, hf⟩ := bd_some hf
      refine x_cvI C hl.1 hR hS (c_X6_goRun l G x1 x2 x3 0 σ _ hc_88) gX6_share_X6_goRun rfl hdV_X6_goRun ⟨Nat.le_of_ble_eq_true rfl, Nat.le_of_ble_eq_true rfl⟩ (by decide) (cz5 rfl) rfl rfl (As := [.int x1, .int x2, .int x3, .int 0]) (rest := []) rfl (Nat.le_of_ble_eq_true rfl) ⟨Nat.le_of_ble_eq_true rfl, Nat.le_of_ble_eq_true rfl⟩ dX6_share_88 (fun r88 σ88 H locs hq_88 hR hS => ?_)
      obtain ⟨rfl, rfl⟩ := hq_88
      refine lv_istore (lv' := [(7, .int r88), (0, .ref (G.2.1 75)), (1, .int x1), (2, .int x2), (3, .int x3), (4, .int x4), (5, .int x5), (6, .int x6)]) hx hb dX6_share_91 hl (by decide) rfl (fun ls hl => ?_)
      refine lv_iload hx hb dX6_share_93 (lv_at hl 7 rfl) ?_
      refine lv_iload hx hb dX6_share_95 (lv_at hl 5 rfl) ?_
      refine lv_icmp_le (tgt := 105) hx hb dX6_share_97 (by decide) (fun c_97 => ?_) (fun c_97 => ?_)
      · replace hf := (if_pos c_97).symm.trans hf
        refine lv_iload hx hb dX6_share_105 (lv_at hl 5 rfl) ?_
        exact w_X6_share_107 C  x5 r88 x4 _ hf _ _ _ hR hS (lv_sub hl [6, 0] rfl)
      · replace hf := (if_neg c_97).symm.trans hf
        refine lv_iload hx hb dX6_share_100 (lv_at hl 7 rfl) ?_
        refine lv_goto (tgt := 107) hx hb dX6_share_102 (by decide) ?_
        exact w_X6_share_107 C  x5 r88 x6 _ hf _ _ _ hR hS (lv_sub hl [6, 0] rfl)
    · replace hf := (if_neg c_64).symm.trans hf
      refine lv_aload_n hx hb dX6_share_67 rfl (lv_at hl 0 rfl) ?_
      refine x_get C hR inX6 75 (by decide) (cz5 rfl) rfl 6 (by decide) 2 rfl (.ref (G.2.1 80)) rfl dX6_share_68 ?_
      refine lv_iload hx hb dX6_share_71 (lv_at hl 7 rfl) ?_
      refine lv_iconst (v := 1) hx hb dX6_share_73 (by decide) ?_
      refine lv_iload_n hx hb dX6_share_74 rfl (lv_at hl 1 rfl) ?_
      refine lv_isub hx hb dX6_share_75 ?_
      obtain ⟨z_76, hf⟩ := gd_some hf
      refine x_iast C hR hS 80 rfl z_76 (n := x7.toNatClampNeg) rfl dX6_share_76 (fun H locs hR hS => ?_)
      refine lv_iinc (v := x7 + 1) (lv' := [(7, .int (x7 + 1)), (0, .ref (G.2.1 75)), (1, .int x1), (2, .int x2), (3, .int x3), (4, .int x4), (5, .int x5), (6, .int x6)]) hx hb dX6_share_77 hl (k := 7) rfl rfl (by decide) rfl (fun ls hl => ?_)
      refine lv_goto (tgt := 60) hx hb dX6_share_80 (by decide) ?_
      exact hrc60 x1 x2 x3 x4 x5 x6 (x7 + 1) _ hf _ _ _ hR hS (lv_sub hl [1, 2, 3, 4, 5, 6, 7, 0] rfl)
set_option maxHeartbeats 4000000 in
set_option maxRecDepth 100000 in
theorem c_X6_share (l : Launch) (G : GG) (x1 : Int32) (x2 : Int32) (x3 : Int32) (x4 : Int32) (σ : St) (res : Int32 × St) (hf : f_X6_share x1 x2 x3 x4 σ = some res) : CI l yX6_share wsX6_share 4 [.ref (G.2.1 75), .int x1, .int x2, .int x3, .int x4] G σ (fun r u => r = res.1 ∧ u = res.2) := by
  refine x_ent (ret := (some .int)) cX6_share 8 (by decide) rfl (Nat.le_of_ble_eq_true rfl) ?_
  intro p e s m below meth c ls C hR hS hl
  have C : Cx p s m [.ref (G.2.1 75), .int x1, .int x2, .int x3, .int x4].toArray meth c cX6_share RX6 wsX6_share (some .int) 8 G := C
  have hx := C.1
  have hb := C.2.1
  have hl : lv_has ls 8 [(0, .ref (G.2.1 75)), (1, .int x1), (2, .int x2), (3, .int x3), (4, .int x4)] := hl
  have inX6 : ∀ w ∈ u_ws RX6 TX6 22, w ∈ wsX6_share := fun w h => List.mem_cons_of_mem _ (List.mem_append_right _ h)
  unfold f_X6_share at hf
  refine lv_iload_n hx hb dX6_share_0 rfl (lv_at hl 1 rfl) ?_
  refine lv_iload_n hx hb dX6_share_1 rfl (lv_at hl 2 rfl) ?_
  refine lv_iload_n hx hb dX6_share_2 rfl (lv_at hl 3 rfl) ?_
  obtain ⟨r3_, σ3_, hc_3, hf⟩ := bd_some hf
  refine x_csI C hl.1 hR hS (c_X6_isRun l G x1 x2 x3 σ _ hc_3) gX6_share_X6_isRun rfl hdS_X6_isRun ⟨Nat.le_of_ble_eq_true rfl, Nat.le_of_ble_eq_true rfl⟩ rfl (As := [.int x1, .int x2, .int x3]) (rest := []) rfl (Nat.le_of_ble_eq_true rfl) ⟨Nat.le_of_ble_eq_true rfl, Nat.le_of_ble_eq_true rfl⟩ dX6_share_3 (fun r3 σ3 H locs hq_3 hR hS => ?_)
  obtain ⟨rfl, rfl⟩ := hq_3
  refine lv_if_eq (tgt := 22) hx hb dX6_share_6 (by decide) (fun c_6 => ?_) (fun c_6 => ?_)
  · replace hf := (if_pos c_6).symm.trans hf
    refine lv_aload_n hx hb dX6_share_22 rfl (lv_at hl 0 rfl) ?_
    refine lv_sipush (v := (-1000)) hx hb dX6_share_23 (by decide) ?_
    obtain ⟨r26_, σ26_, hc_26, hf⟩ := bd_some hf
    refine x_cvI C hl.1 hR hS (c_X6_bad l G (-1000) σ3 _ hc_26) gX6_share_X6_bad rfl hdV_X6_bad ⟨Nat.le_of_ble_eq_true rfl, Nat.le_of_ble_eq_true rfl⟩ (by decide) (cz5 rfl) rfl rfl (As := [.int (-1000)]) (rest := []) rfl (Nat.le_of_ble_eq_true rfl) ⟨Nat.le_of_ble_eq_true rfl, Nat.le_of_ble_eq_true rfl⟩ dX6_share_26 (fun r26 σ26 H locs hq_26 hR hS => ?_)
    obtain ⟨rfl, rfl⟩ := hq_26
    obtain rfl := Option.some.inj hf
    exact x_iret C hR hS dX6_share_29 ⟨rfl, rfl⟩
  · replace hf := (if_neg c_6).symm.trans hf
    refine lv_iload hx hb dX6_share_9 (lv_at hl 4 rfl) ?_
    refine lv_i2l (v := x4.toInt64) hx hb dX6_share_11 rfl ?_
    refine lv_lconst (v := 0) hx hb dX6_share_12 (by decide) ?_
    refine lv_ldc2 (v := 60) hx hb C.2.2.2.2.1 (C.2.2.2.2.2.1 _ (List.mem_of_getElem? (i := 1) rfl)) dX6_share_13 ?_
    obtain ⟨r16_, σ16_, hc_16, hf⟩ := bd_some hf
    refine x_csI C hl.1 hR hS (c_X6_in l G x4.toInt64 0 60 σ3 _ hc_16) gX6_share_X6_in rfl hdS_X6_in ⟨Nat.le_of_ble_eq_true rfl, Nat.le_of_ble_eq_true rfl⟩ rfl (As := [.long x4.toInt64, .long 0, .long 60]) (rest := []) rfl (Nat.le_of_ble_eq_true rfl) ⟨Nat.le_of_ble_eq_true rfl, Nat.le_of_ble_eq_true rfl⟩ dX6_share_16 (fun r16 σ16 H locs hq_16 hR hS => ?_)
    obtain ⟨rfl, rfl⟩ := hq_16
    refine lv_if_ne (tgt := 30) hx hb dX6_share_19 (by decide) (fun c_19 => ?_) (fun c_19 => ?_)
    · replace hf := (if_neg c_19).symm.trans hf
      refine lv_aload_n hx hb dX6_share_30 rfl (lv_at hl 0 rfl) ?_
      obtain ⟨σ31_, hc_31, hf⟩ := bv_some hf
      refine x_cvV C hl.1 hR hS (c_X6_layHand l G σ16 _ hc_31) gX6_share_X6_layHand rfl hdV_X6_layHand ⟨Nat.le_of_ble_eq_true rfl, Nat.le_of_ble_eq_true rfl⟩ (by decide) (cz5 rfl) rfl rfl (As := []) (rest := []) rfl (Nat.le_of_ble_eq_true rfl) ⟨Nat.le_of_ble_eq_true rfl, Nat.le_of_ble_eq_true rfl⟩ dX6_share_31 (fun σ31 H locs hq_31 hR hS => ?_)
      subst hq_31
      refine lv_iload hx hb dX6_share_34 (lv_at hl 4 rfl) ?_
      refine lv_aload_n hx hb dX6_share_36 rfl (lv_at hl 0 rfl) ?_
      refine lv_iload_n hx hb dX6_share_37 rfl (lv_at hl 1 rfl) ?_
      refine lv_iload_n hx hb dX6_share_38 rfl (lv_at hl 2 rfl) ?_
      refine lv_iload_n hx hb dX6_share_39 rfl (lv_at hl 3 rfl) ?_
      refine lv_iconst (v := 3) hx hb dX6_share_40 (by decide) ?_
      obtain ⟨r41_, σ41_, hc_41, hf⟩ := bd_some hf
      refine x_cvI C hl.1 hR hS (c_X6_goRun l G x1 x2 x3 3 σ31 _ hc_41) gX6_share_X6_goRun rfl hdV_X6_goRun ⟨Nat.le_of_ble_eq_true rfl, Nat.le_of_ble_eq_true rfl⟩ (by decide) (cz5 rfl) rfl rfl (As := [.int x1, .int x2, .int x3, .int 3]) (rest := [.int x4]) rfl (Nat.le_of_ble_eq_true rfl) ⟨Nat.le_of_ble_eq_true rfl, Nat.le_of_ble_eq_true rfl⟩ dX6_share_41 (fun r41 σ41 H locs hq_41 hR hS => ?_)
      obtain ⟨rfl, rfl⟩ := hq_41
      refine lv_iadd hx hb dX6_share_44 ?_
      refine lv_istore (lv' := [(5, .int (x4 + r41)), (0, .ref (G.2.1 75)), (1, .int x1), (2, .int x2), (3, .int x3), (4, .int x4)]) hx hb dX6_share_45 hl (by decide) rfl (fun ls hl => ?_)
      refine lv_aload_n hx hb dX6_share_47 rfl (lv_at hl 1 rfl) ?_
      refine lv_iload_n hx hb dX6_share_48 rfl (lv_at hl 2 rfl) ?_
      refine lv_iload_n hx hb dX6_share_49 rfl (lv_at hl 3 rfl) ?_
      refine lv_iload_n hx hb dX6_share_50 rfl (lv_at hl 4 rfl) ?_
      refine lv_iconst (v := 0) hx hb dX6_share_51 (by decide) ?_
      obtain ⟨r52_, σ52_, hc_52, hf⟩ := bd_some hf
      refine x_cvI C hl.1 hR hS (c_X6_runNow l G x1 x2 x3 0 σ41 _ hc_52) gX6_share_X6_runNow rfl hdV_X6_runNow ⟨Nat.le_of_ble_eq_true rfl, Nat.le_of_ble_eq_true rfl⟩ (by decide) (cz5 rfl) rfl rfl (As := [.int x1, .int x2, .int x3, .int 0]) (rest := []) rfl (Nat.le_of_ble_eq_true rfl) ⟨Nat.le_of_ble_eq_true rfl, Nat.le_of_ble_eq_true rfl⟩ dX6_share_52 (fun r52 σ52 H locs hq_52 hR hS => ?_)
      obtain ⟨rfl, rfl⟩ := hq_52
      refine lv_istore (lv' := [(6, .int r52), (5, .int (x4 + r41)), (0, .ref (G.2.1 75)), (1, .int x1), (2, .int x2), (3, .int x3), (4, .int x4)]) hx hb dX6_share_55 hl (by decide) rfl (fun ls hl => ?_)
      refine lv_iconst (v := 0) hx hb dX6_share_57 (by decide) ?_
      refine lv_istore (lv' := [(7, .int 0), (6, .int r52), (5, .int (x4 + r41)), (0, .ref (G.2.1 75)), (1, .int x1), (2, .int x2), (3, .int x3), (4, .int x4)]) hx hb dX6_share_58 hl (by decide) rfl (fun ls hl => ?_)
      exact w_X6_share_60 C  FU x1 x2 x3 x4 (x4 + r41) r52 0 _ hf _ _ _ hR hS (lv_sub hl [3, 4, 5, 6, 7, 2, 1, 0] rfl)
    · replace hf := (if_pos c_19).symm.trans hf
      refine lv_aload_n hx hb dX6_share_22 rfl (lv_at hl 0 rfl) ?_
      refine lv_sipush (v := (-1000)) hx hb dX6_share_23 (by decide) ?_
      obtain ⟨r26_, σ26_, hc_26, hf⟩ := bd_some hf
      refine x_cvI C hl.1 hR hS (c_X6_bad l G (-1000) σ16 _ hc_26) gX6_share_X6_bad rfl hdV_X6_bad ⟨Nat.le_of_ble_eq_true rfl, Nat.le_of_ble_eq_true rfl⟩ (by decide) (cz5 rfl) rfl rfl (As := [.int (-1000)]) (rest := []) rfl (Nat.le_of_ble_eq_true rfl) ⟨Nat.le_of_ble_eq_true rfl, Nat.le_of_ble_eq_true rfl⟩ dX6_share_26 (fun r26 σ26 H locs hq_26 hR hS => ?_)
      obtain ⟨rfl, rfl⟩ := hq_26
      obtain rfl := Option.some.inj hf
      exact x_iret C hR hS dX6_share_29 ⟨rfl, rfl⟩
theorem hdV_X6_key : yX6_key.cls = RX6 ∧ yX6_key.cls ≠ "java/lang/invoke/MethodHandle" ∧ yX6_key.cls ≠ "java/lang/invoke/VarHandle" ∧ (parseMethodDescriptor yX6_key.desc).map (fun d => d.parameters.length) = some 3 := by decide +kernel
def f_X6_key_41 : Nat → Int32 → Int32 → Int32 → Int32 → St → Option (Int32 × St)
  | 0, _, _, _, _, _ => none
  | n + 1, x1, x3, x4, x5, σ => (if x3 ≤ x5 then some (x4, σ) else bd (f_X6_roadFrom x1 x5 σ) (fun r54 σ54 => bd (f_X6_walk r54 2 σ54) (fun r58 σ58 => (f_X6_key_41 n) x1 x3 (x4 + (2 * r58)) (x5 + 1) σ58)))
def f_X6_key (x1 : Int32) (x2 : Int32) (x3 : Int32) (σ : St) : Option (Int32 × St) :=
  bd (f_X6_isDown x1 σ) (fun r1 σ1 => (if r1 = 0 then bd (f_X6_bad (-2) σ1) (fun r31 σ31 => some (r31, σ31)) else bd (f_X6_isLock x2 σ1) (fun r9 σ9 => (if r9 = 0 then bd (f_X6_bad (-2) σ9) (fun r31 σ31 => some (r31, σ31)) else bd (f_X6_isLock x3 σ9) (fun r17 σ17 => (if r17 = 0 then bd (f_X6_bad (-2) σ17) (fun r31 σ31 => some (r31, σ31)) else (if x2 ≤ x3 then f_X6_key_41 FU x1 x3 0 x2 σ17 else bd (f_X6_bad (-2) σ17) (fun r31 σ31 => some (r31, σ31)))))))))
set_option maxHeartbeats 4000000 in
set_option maxRecDepth 100000 in
theorem w_X6_key_41 {p : Program} {l : Launch} {e : Env} {s : State} {m : MethodId} {args : Array Value} {below : List Frame} {meth : Method} {c : Code} {G : GG} (C : Cx p s m args meth c cX6_key RX6 wsX6_key (some .int) 6 G) {res : Int32 × St} : ∀ (n : Nat) (x1 : Int32) (x3 : Int32) (x4 : Int32) (x5 : Int32) (σ : St), f_X6_key_41 n x1 x3 x4 x5 σ = some res → WC p l e 2 s m args below meth c G (QI G res) 6 41 [(0, .ref (G.2.1 75)), (1, .int x1), (3, .int x3), (4, .int x4), (5, .int x5)] [] σ := by
  have hx := C.1
  have hb := C.2.1
  intro n
  induction n with
  | zero => intro x1 x3 x4 x5 σ hf; cases hf
  | succ n hrc41 =>
    intro x1 x3 x4 x5 σ hf _ _ _ hR hS hl
    unfold f_X6_key_41 at hf
    refine lv_iload hx hb dX6_key_41 (lv_at hl 4 rfl) ?_
    refine lv_iload_n hx hb dX6_key_43 rfl (lv_at hl 2 rfl) ?_
    refine lv_icmp_ge (tgt := 71) hx hb dX6_key_44 (by decide) (fun c_44 => ?_) (fun c_44 => ?_)
    · replace hf := (if_pos c_44).symm.trans hf
      refine lv_iload hx hb dX6_key_71 (lv_at hl 3 rfl) ?_
      obtain rfl := Option.some.inj hf
      exact x_iret C hR hS dX6_key_73 ⟨rfl, rfl⟩
    · replace hf := (if_neg c_44).symm.trans hf
      refine lv_iload hx hb dX6_key_47 (lv_at hl 3 rfl) ?_
      refine lv_iconst (v := 2) hx hb dX6_key_49 (by decide) ?_
      refine lv_aload_n hx hb dX6_key_50 rfl (lv_at hl 0 rfl) ?_
      refine lv_iload_n hx hb dX6_key_51 rfl (lv_at hl 1 rfl) ?_
      refine lv_iload hx hb dX6_key_52 (lv_at hl 4 rfl) ?_
      obtain ⟨r54_, σ54_, hc_54, hf⟩ := bd_some hf
      refine x_cvI C hl.1 hR hS (c_X6_roadFrom l G x1 x5 σ _ hc_54) gX6_key_X6_roadFrom rfl hdV_X6_roadFrom ⟨Nat.le_of_ble_eq_true rfl, Nat.le_of_ble_eq_true rfl⟩ (by decide) (cz5 rfl) rfl rfl (As := [.int x1, .int x5]) (rest := [.int 2, .int x4]) rfl (Nat.le_of_ble_eq_true rfl) ⟨Nat.le_of_ble_eq_true rfl, Nat.le_of_ble_eq_true rfl⟩ dX6_key_54 (fun r54 σ54 H locs hq_54 hR hS => ?_)
      obtain ⟨rfl, rfl⟩ := hq_54
      refine lv_iconst (v := 2) hx hb dX6_key_57 (by decide) ?_
      obtain ⟨r58_, σ58_, hc_58, hf⟩ := bd_some hf
      refine x_csI C hl.1 hR hS (c_X6_walk l G r54 2 σ54 _ hc_58) gX6_key_X6_walk rfl hdS_X6_walk ⟨Nat.le_of_ble_eq_true rfl, Nat.le_of_ble_eq_true rfl⟩ rfl (As := [.int r54, .int 2]) (rest := [.int 2, .int x4]) rfl (Nat.le_of_ble_eq_true rfl) ⟨Nat.le_of_ble_eq_true rfl, Nat.le_of_ble_eq_true rfl⟩ dX6_key_58 (fun r58 σ58 H locs hq_58 hR hS => ?_)
      obtain ⟨rfl, rfl⟩ := hq_58
      refine lv_imul hx hb dX6_key_61 ?_
      refine lv_iadd hx hb dX6_key_62 ?_
      refine lv_istore (lv' := [(4, .int (x4 + (2 * r58))), (0, .ref (G.2.1 75)), (1, .int x1), (3, .int x3), (5, .int x5)]) hx hb dX6_key_63 hl (by decide) rfl (fun ls hl => ?_)
      refine lv_iinc (v := x5 + 1) (lv' := [(5, .int (x5 + 1)), (4, .int (x4 + (2 * r58))), (0, .ref (G.2.1 75)), (1, .int x1), (3, .int x3)]) hx hb dX6_key_65 hl (k := 4) rfl rfl (by decide) rfl (fun ls hl => ?_)
      refine lv_goto (tgt := 41) hx hb dX6_key_68 (by decide) ?_
      exact hrc41 x1 x3 (x4 + (2 * r58)) (x5 + 1) _ hf _ _ _ hR hS (lv_sub hl [2, 3, 4, 1, 0] rfl)
set_option maxHeartbeats 4000000 in
set_option maxRecDepth 100000 in
theorem c_X6_key (l : Launch) (G : GG) (x1 : Int32) (x2 : Int32) (x3 : Int32) (σ : St) (res : Int32 × St) (hf : f_X6_key x1 x2 x3 σ = some res) : CI l yX6_key wsX6_key 2 [.ref (G.2.1 75), .int x1, .int x2, .int x3] G σ (fun r u => r = res.1 ∧ u = res.2) := by
  refine x_ent (ret := (some .int)) cX6_key 6 (by decide) rfl (Nat.le_of_ble_eq_true rfl) ?_
  intro p e s m below meth c ls C hR hS hl
  have C : Cx p s m [.ref (G.2.1 75), .int x1, .int x2, .int x3].toArray meth c cX6_key RX6 wsX6_key (some .int) 6 G := C
  have hx := C.1
  have hb := C.2.1
  have hl : lv_has ls 6 [(0, .ref (G.2.1 75)), (1, .int x1), (2, .int x2), (3, .int x3)] := hl
  unfold f_X6_key at hf
  refine lv_iload_n hx hb dX6_key_0 rfl (lv_at hl 1 rfl) ?_
  obtain ⟨r1_, σ1_, hc_1, hf⟩ := bd_some hf
  refine x_csI C hl.1 hR hS (c_X6_isDown l G x1 σ _ hc_1) gX6_key_X6_isDown rfl hdS_X6_isDown ⟨Nat.le_of_ble_eq_true rfl, Nat.le_of_ble_eq_true rfl⟩ rfl (As := [.int x1]) (rest := []) rfl (Nat.le_of_ble_eq_true rfl) ⟨Nat.le_of_ble_eq_true rfl, Nat.le_of_ble_eq_true rfl⟩ dX6_key_1 (fun r1 σ1 H locs hq_1 hR hS => ?_)
  obtain ⟨rfl, rfl⟩ := hq_1
  refine lv_if_eq (tgt := 28) hx hb dX6_key_4 (by decide) (fun c_4 => ?_) (fun c_4 => ?_)
  · replace hf := (if_pos c_4).symm.trans hf
    refine lv_aload_n hx hb dX6_key_28 rfl (lv_at hl 0 rfl) ?_
    refine lv_bipush (v := (-2)) hx hb dX6_key_29 (by decide) ?_
    obtain ⟨r31_, σ31_, hc_31, hf⟩ := bd_some hf
    refine x_cvI C hl.1 hR hS (c_X6_bad l G (-2) σ1 _ hc_31) gX6_key_X6_bad rfl hdV_X6_bad ⟨Nat.le_of_ble_eq_true rfl, Nat.le_of_ble_eq_true rfl⟩ (by decide) (cz5 rfl) rfl rfl (As := [.int (-2)]) (rest := []) rfl (Nat.le_of_ble_eq_true rfl) ⟨Nat.le_of_ble_eq_true rfl, Nat.le_of_ble_eq_true rfl⟩ dX6_key_31 (fun r31 σ31 H locs hq_31 hR hS => ?_)
    obtain ⟨rfl, rfl⟩ := hq_31
    obtain rfl := Option.some.inj hf
    exact x_iret C hR hS dX6_key_34 ⟨rfl, rfl⟩
  · replace hf := (if_neg c_4).symm.trans hf
    refine lv_aload_n hx hb dX6_key_7 rfl (lv_at hl 0 rfl) ?_
    refine lv_iload_n hx hb dX6_key_8 rfl (lv_at hl 2 rfl) ?_
    obtain ⟨r9_, σ9_, hc_9, hf⟩ := bd_some hf
    refine x_cvI C hl.1 hR hS (c_X6_isLock l G x2 σ1 _ hc_9) gX6_key_X6_isLock rfl hdV_X6_isLock ⟨Nat.le_of_ble_eq_true rfl, Nat.le_of_ble_eq_true rfl⟩ (by decide) (cz5 rfl) rfl rfl (As := [.int x2]) (rest := []) rfl (Nat.le_of_ble_eq_true rfl) ⟨Nat.le_of_ble_eq_true rfl, Nat.le_of_ble_eq_true rfl⟩ dX6_key_9 (fun r9 σ9 H locs hq_9 hR hS => ?_)
    obtain ⟨rfl, rfl⟩ := hq_9
    refine lv_if_eq (tgt := 28) hx hb dX6_key_12 (by decide) (fun c_12 => ?_) (fun c_12 => ?_)
    · replace hf := (if_pos c_12).symm.trans hf
      refine lv_aload_n hx hb dX6_key_28 rfl (lv_at hl 0 rfl) ?_
      refine lv_bipush (v := (-2)) hx hb dX6_key_29 (by decide) ?_
      obtain ⟨r31_, σ31_, hc_31, hf⟩ := bd_some hf
      refine x_cvI C hl.1 hR hS (c_X6_bad l G (-2) σ9 _ hc_31) gX6_key_X6_bad rfl hdV_X6_bad ⟨Nat.le_of_ble_eq_true rfl, Nat.le_of_ble_eq_true rfl⟩ (by decide) (cz5 rfl) rfl rfl (As := [.int (-2)]) (rest := []) rfl (Nat.le_of_ble_eq_true rfl) ⟨Nat.le_of_ble_eq_true rfl, Nat.le_of_ble_eq_true rfl⟩ dX6_key_31 (fun r31 σ31 H locs hq_31 hR hS => ?_)
      obtain ⟨rfl, rfl⟩ := hq_31
      obtain rfl := Option.some.inj hf
      exact x_iret C hR hS dX6_key_34 ⟨rfl, rfl⟩
    · replace hf := (if_neg c_12).symm.trans hf
      refine lv_aload_n hx hb dX6_key_15 rfl (lv_at hl 0 rfl) ?_
      refine lv_iload_n hx hb dX6_key_16 rfl (lv_at hl 3 rfl) ?_
      obtain ⟨r17_, σ17_, hc_17, hf⟩ := bd_some hf
      refine x_cvI C hl.1 hR hS (c_X6_isLock l G x3 σ9 _ hc_17) gX6_key_X6_isLock rfl hdV_X6_isLock ⟨Nat.le_of_ble_eq_true rfl, Nat.le_of_ble_eq_true rfl⟩ (by decide) (cz5 rfl) rfl rfl (As := [.int x3]) (rest := []) rfl (Nat.le_of_ble_eq_true rfl) ⟨Nat.le_of_ble_eq_true rfl, Nat.le_of_ble_eq_true rfl⟩ dX6_key_17 (fun r17 σ17 H locs hq_17 hR hS => ?_)
      obtain ⟨rfl, rfl⟩ := hq_17
      refine lv_if_eq (tgt := 28) hx hb dX6_key_20 (by decide) (fun c_20 => ?_) (fun c_20 => ?_)
      · replace hf := (if_pos c_20).symm.trans hf
        refine lv_aload_n hx hb dX6_key_28 rfl (lv_at hl 0 rfl) ?_
        refine lv_bipush (v := (-2)) hx hb dX6_key_29 (by decide) ?_
        obtain ⟨r31_, σ31_, hc_31, hf⟩ := bd_some hf
        refine x_cvI C hl.1 hR hS (c_X6_bad l G (-2) σ17 _ hc_31) gX6_key_X6_bad rfl hdV_X6_bad ⟨Nat.le_of_ble_eq_true rfl, Nat.le_of_ble_eq_true rfl⟩ (by decide) (cz5 rfl) rfl rfl (As := [.int (-2)]) (rest := []) rfl (Nat.le_of_ble_eq_true rfl) ⟨Nat.le_of_ble_eq_true rfl, Nat.le_of_ble_eq_true rfl⟩ dX6_key_31 (fun r31 σ31 H locs hq_31 hR hS => ?_)
        obtain ⟨rfl, rfl⟩ := hq_31
        obtain rfl := Option.some.inj hf
        exact x_iret C hR hS dX6_key_34 ⟨rfl, rfl⟩
      · replace hf := (if_neg c_20).symm.trans hf
        refine lv_iload_n hx hb dX6_key_23 rfl (lv_at hl 2 rfl) ?_
        refine lv_iload_n hx hb dX6_key_24 rfl (lv_at hl 3 rfl) ?_
        refine lv_icmp_le (tgt := 35) hx hb dX6_key_25 (by decide) (fun c_25 => ?_) (fun c_25 => ?_)
        · replace hf := (if_pos c_25).symm.trans hf
          refine lv_iconst (v := 0) hx hb dX6_key_35 (by decide) ?_
          refine lv_istore (lv' := [(4, .int 0), (0, .ref (G.2.1 75)), (1, .int x1), (2, .int x2), (3, .int x3)]) hx hb dX6_key_36 hl (by decide) rfl (fun ls hl => ?_)
          refine lv_iload_n hx hb dX6_key_38 rfl (lv_at hl 3 rfl) ?_
          refine lv_istore (lv' := [(5, .int x2), (4, .int 0), (0, .ref (G.2.1 75)), (1, .int x1), (2, .int x2), (3, .int x3)]) hx hb dX6_key_39 hl (by decide) rfl (fun ls hl => ?_)
          exact w_X6_key_41 C  FU x1 x3 0 x2 _ hf _ _ _ hR hS (lv_sub hl [2, 3, 5, 1, 0] rfl)
        · replace hf := (if_neg c_25).symm.trans hf
          refine lv_aload_n hx hb dX6_key_28 rfl (lv_at hl 0 rfl) ?_
          refine lv_bipush (v := (-2)) hx hb dX6_key_29 (by decide) ?_
          obtain ⟨r31_, σ31_, hc_31, hf⟩ := bd_some hf
          refine x_cvI C hl.1 hR hS (c_X6_bad l G (-2) σ17 _ hc_31) gX6_key_X6_bad rfl hdV_X6_bad ⟨Nat.le_of_ble_eq_true rfl, Nat.le_of_ble_eq_true rfl⟩ (by decide) (cz5 rfl) rfl rfl (As := [.int (-2)]) (rest := []) rfl (Nat.le_of_ble_eq_true rfl) ⟨Nat.le_of_ble_eq_true rfl, Nat.le_of_ble_eq_true rfl⟩ dX6_key_31 (fun r31 σ31 H locs hq_31 hR hS => ?_)
          obtain ⟨rfl, rfl⟩ := hq_31
          obtain rfl := Option.some.inj hf
          exact x_iret C hR hS dX6_key_34 ⟨rfl, rfl⟩
theorem hdV_X6_reading : yX6_reading.cls = RX6 ∧ yX6_reading.cls ≠ "java/lang/invoke/MethodHandle" ∧ yX6_reading.cls ≠ "java/lang/invoke/VarHandle" ∧ (parseMethodDescriptor yX6_reading.desc).map (fun d => d.parameters.length) = some 2 := by decide +kernel
def f_X6_reading (x1 : Int32) (x2 : Int32) (σ : St) : Option (Int32 × St) :=
  bd (f_X6_isLock x1 σ) (fun r2 σ2 => (if r2 = 0 then bd (f_X6_bad (-2) σ2) (fun r23 σ23 => some (r23, σ23)) else bd (f_X6_in x2.toInt64 0 999 σ2) (fun r14 σ14 => (if r14 = 0 then bd (f_X6_bad (-2) σ14) (fun r23 σ23 => some (r23, σ23)) else (if (sA σ14 76 4) = 6 then bd (f_X6_full σ14) (fun r39 σ39 => some (r39, σ39)) else gd ((30 + (2 * (sA σ14 76 4))) < 0 ∨ 122 ≤ (30 + (2 * (sA σ14 76 4))).toNatClampNeg) (gd (((30 + (2 * (sA (pA σ14 76 ((30 + (2 * (sA σ14 76 4))).toNatClampNeg) x1) 76 4))) + 1) < 0 ∨ 122 ≤ ((30 + (2 * (sA (pA σ14 76 ((30 + (2 * (sA σ14 76 4))).toNatClampNeg) x1) 76 4))) + 1).toNatClampNeg) (some (((sA (pA (pA σ14 76 ((30 + (2 * (sA σ14 76 4))).toNatClampNeg) x1) 76 (((30 + (2 * (sA (pA σ14 76 ((30 + (2 * (sA σ14 76 4))).toNatClampNeg) x1) 76 4))) + 1).toNatClampNeg) x2) 76 4) + 1) - 1, (pA (pA (pA σ14 76 ((30 + (2 * (sA σ14 76 4))).toNatClampNeg) x1) 76 (((30 + (2 * (sA (pA σ14 76 ((30 + (2 * (sA σ14 76 4))).toNatClampNeg) x1) 76 4))) + 1).toNatClampNeg) x2) 76 4 ((sA (pA (pA σ14 76 ((30 + (2 * (sA σ14 76 4))).toNatClampNeg) x1) 76 (((30 + (2 * (sA (pA σ14 76 ((30 + (2 * (sA σ14 76 4))).toNatClampNeg) x1) 76 4))) + 1).toNatClampNeg) x2) 76 4) + 1))))))))))
set_option maxHeartbeats 4000000 in
set_option maxRecDepth 100000 in
theorem c_X6_reading (l : Launch) (G : GG) (x1 : Int32) (x2 : Int32) (σ : St) (res : Int32 × St) (hf : f_X6_reading x1 x2 σ = some res) : CI l yX6_reading wsX6_reading 2 [.ref (G.2.1 75), .int x1, .int x2] G σ (fun r u => r = res.1 ∧ u = res.2) := by
  refine x_ent (ret := (some .int)) cX6_reading 3 (by decide) rfl (Nat.le_of_ble_eq_true rfl) ?_
  intro p e s m below meth c ls C hR hS hl
  have C : Cx p s m [.ref (G.2.1 75), .int x1, .int x2].toArray meth c cX6_reading RX6 wsX6_reading (some .int) 3 G := C
  have hx := C.1
  have hb := C.2.1
  have hl : lv_has ls 3 [(0, .ref (G.2.1 75)), (1, .int x1), (2, .int x2)] := hl
  have inX6 : ∀ w ∈ u_ws RX6 TX6 22, w ∈ wsX6_reading := fun w h => List.mem_cons_of_mem _ (List.mem_append_right _ h)
  unfold f_X6_reading at hf
  refine lv_aload_n hx hb dX6_reading_0 rfl (lv_at hl 0 rfl) ?_
  refine lv_iload_n hx hb dX6_reading_1 rfl (lv_at hl 1 rfl) ?_
  obtain ⟨r2_, σ2_, hc_2, hf⟩ := bd_some hf
  refine x_cvI C hl.1 hR hS (c_X6_isLock l G x1 σ _ hc_2) gX6_reading_X6_isLock rfl hdV_X6_isLock ⟨Nat.le_of_ble_eq_true rfl, Nat.le_of_ble_eq_true rfl⟩ (by decide) (cz5 rfl) rfl rfl (As := [.int x1]) (rest := []) rfl (Nat.le_of_ble_eq_true rfl) ⟨Nat.le_of_ble_eq_true rfl, Nat.le_of_ble_eq_true rfl⟩ dX6_reading_2 (fun r2 σ2 H locs hq_2 hR hS => ?_)
  obtain ⟨rfl, rfl⟩ := hq_2
  refine lv_if_eq (tgt := 20) hx hb dX6_reading_5 (by decide) (fun c_5 => ?_) (fun c_5 => ?_)
  · replace hf := (if_pos c_5).symm.trans hf
    refine lv_aload_n hx hb dX6_reading_20 rfl (lv_at hl 0 rfl) ?_
    refine lv_bipush (v := (-2)) hx hb dX6_reading_21 (by decide) ?_
    obtain ⟨r23_, σ23_, hc_23, hf⟩ := bd_some hf
    refine x_cvI C hl.1 hR hS (c_X6_bad l G (-2) σ2 _ hc_23) gX6_reading_X6_bad rfl hdV_X6_bad ⟨Nat.le_of_ble_eq_true rfl, Nat.le_of_ble_eq_true rfl⟩ (by decide) (cz5 rfl) rfl rfl (As := [.int (-2)]) (rest := []) rfl (Nat.le_of_ble_eq_true rfl) ⟨Nat.le_of_ble_eq_true rfl, Nat.le_of_ble_eq_true rfl⟩ dX6_reading_23 (fun r23 σ23 H locs hq_23 hR hS => ?_)
    obtain ⟨rfl, rfl⟩ := hq_23
    obtain rfl := Option.some.inj hf
    exact x_iret C hR hS dX6_reading_26 ⟨rfl, rfl⟩
  · replace hf := (if_neg c_5).symm.trans hf
    refine lv_iload_n hx hb dX6_reading_8 rfl (lv_at hl 2 rfl) ?_
    refine lv_i2l (v := x2.toInt64) hx hb dX6_reading_9 rfl ?_
    refine lv_lconst (v := 0) hx hb dX6_reading_10 (by decide) ?_
    refine lv_ldc2 (v := 999) hx hb C.2.2.2.2.1 (C.2.2.2.2.2.1 _ (List.mem_of_getElem? (i := 1) rfl)) dX6_reading_11 ?_
    obtain ⟨r14_, σ14_, hc_14, hf⟩ := bd_some hf
    refine x_csI C hl.1 hR hS (c_X6_in l G x2.toInt64 0 999 σ2 _ hc_14) gX6_reading_X6_in rfl hdS_X6_in ⟨Nat.le_of_ble_eq_true rfl, Nat.le_of_ble_eq_true rfl⟩ rfl (As := [.long x2.toInt64, .long 0, .long 999]) (rest := []) rfl (Nat.le_of_ble_eq_true rfl) ⟨Nat.le_of_ble_eq_true rfl, Nat.le_of_ble_eq_true rfl⟩ dX6_reading_14 (fun r14 σ14 H locs hq_14 hR hS => ?_)
    obtain ⟨rfl, rfl⟩ := hq_14
    refine lv_if_ne (tgt := 27) hx hb dX6_reading_17 (by decide) (fun c_17 => ?_) (fun c_17 => ?_)
    · replace hf := (if_neg c_17).symm.trans hf
      refine lv_aload_n hx hb dX6_reading_27 rfl (lv_at hl 0 rfl) ?_
      refine x_get C hR inX6 75 (by decide) (cz5 rfl) rfl 0 (by decide) 2 rfl (.ref (G.2.1 76)) rfl dX6_reading_28 ?_
      refine lv_iconst (v := 4) hx hb dX6_reading_31 (by decide) ?_
      refine x_iald C hR 76 rfl (x_in rfl) (n := 4) rfl (sA σ14 76 4) rfl dX6_reading_32 ?_
      refine lv_bipush (v := 6) hx hb dX6_reading_33 (by decide) ?_
      refine lv_icmp_ne (tgt := 43) hx hb dX6_reading_35 (by decide) (fun c_35 => ?_) (fun c_35 => ?_)
      · replace hf := (if_neg c_35).symm.trans hf
        refine lv_aload_n hx hb dX6_reading_43 rfl (lv_at hl 0 rfl) ?_
        refine x_get C hR inX6 75 (by decide) (cz5 rfl) rfl 0 (by decide) 2 rfl (.ref (G.2.1 76)) rfl dX6_reading_44 ?_
        refine lv_bipush (v := 30) hx hb dX6_reading_47 (by decide) ?_
        refine lv_iconst (v := 2) hx hb dX6_reading_49 (by decide) ?_
        refine lv_aload_n hx hb dX6_reading_50 rfl (lv_at hl 0 rfl) ?_
        refine x_get C hR inX6 75 (by decide) (cz5 rfl) rfl 0 (by decide) 2 rfl (.ref (G.2.1 76)) rfl dX6_reading_51 ?_
        refine lv_iconst (v := 4) hx hb dX6_reading_54 (by decide) ?_
        refine x_iald C hR 76 rfl (x_in rfl) (n := 4) rfl (sA σ14 76 4) rfl dX6_reading_55 ?_
        refine lv_imul hx hb dX6_reading_56 ?_
        refine lv_iadd hx hb dX6_reading_57 ?_
        refine lv_iload_n hx hb dX6_reading_58 rfl (lv_at hl 1 rfl) ?_
        obtain ⟨z_59, hf⟩ := gd_some hf
        refine x_iast C hR hS 76 rfl z_59 (n := (30 + (2 * (sA σ14 76 4))).toNatClampNeg) rfl dX6_reading_59 (fun H locs hR hS => ?_)
        refine lv_aload_n hx hb dX6_reading_60 rfl (lv_at hl 0 rfl) ?_
        refine x_get C hR inX6 75 (by decide) (cz5 rfl) rfl 0 (by decide) 2 rfl (.ref (G.2.1 76)) rfl dX6_reading_61 ?_
        refine lv_bipush (v := 30) hx hb dX6_reading_64 (by decide) ?_
        refine lv_iconst (v := 2) hx hb dX6_reading_66 (by decide) ?_
        refine lv_aload_n hx hb dX6_reading_67 rfl (lv_at hl 0 rfl) ?_
        refine x_get C hR inX6 75 (by decide) (cz5 rfl) rfl 0 (by decide) 2 rfl (.ref (G.2.1 76)) rfl dX6_reading_68 ?_
        refine lv_iconst (v := 4) hx hb dX6_reading_71 (by decide) ?_
        refine x_iald C hR 76 rfl (x_in rfl) (n := 4) rfl (sA (pA σ14 76 ((30 + (2 * (sA σ14 76 4))).toNatClampNeg) x1) 76 4) rfl dX6_reading_72 ?_
        refine lv_imul hx hb dX6_reading_73 ?_
        refine lv_iadd hx hb dX6_reading_74 ?_
        refine lv_iconst (v := 1) hx hb dX6_reading_75 (by decide) ?_
        refine lv_iadd hx hb dX6_reading_76 ?_
        refine lv_iload_n hx hb dX6_reading_77 rfl (lv_at hl 2 rfl) ?_
        obtain ⟨z_78, hf⟩ := gd_some hf
        refine x_iast C hR hS 76 rfl z_78 (n := ((30 + (2 * (sA (pA σ14 76 ((30 + (2 * (sA σ14 76 4))).toNatClampNeg) x1) 76 4))) + 1).toNatClampNeg) rfl dX6_reading_78 (fun H locs hR hS => ?_)
        refine lv_aload_n hx hb dX6_reading_79 rfl (lv_at hl 0 rfl) ?_
        refine x_get C hR inX6 75 (by decide) (cz5 rfl) rfl 0 (by decide) 2 rfl (.ref (G.2.1 76)) rfl dX6_reading_80 ?_
        refine lv_iconst (v := 4) hx hb dX6_reading_83 (by decide) ?_
        refine lv_dup2_11 hx hb dX6_reading_84 rfl rfl ?_
        refine x_iald C hR 76 rfl (x_in rfl) (n := 4) rfl (sA (pA (pA σ14 76 ((30 + (2 * (sA σ14 76 4))).toNatClampNeg) x1) 76 (((30 + (2 * (sA (pA σ14 76 ((30 + (2 * (sA σ14 76 4))).toNatClampNeg) x1) 76 4))) + 1).toNatClampNeg) x2) 76 4) rfl dX6_reading_85 ?_
        refine lv_iconst (v := 1) hx hb dX6_reading_86 (by decide) ?_
        refine lv_iadd hx hb dX6_reading_87 ?_
        refine x_iast C hR hS 76 rfl (x_in rfl) (n := 4) rfl dX6_reading_88 (fun H locs hR hS => ?_)
        refine lv_aload_n hx hb dX6_reading_89 rfl (lv_at hl 0 rfl) ?_
        refine x_get C hR inX6 75 (by decide) (cz5 rfl) rfl 0 (by decide) 2 rfl (.ref (G.2.1 76)) rfl dX6_reading_90 ?_
        refine lv_iconst (v := 4) hx hb dX6_reading_93 (by decide) ?_
        refine x_iald C hR 76 rfl (x_in rfl) (n := 4) rfl ((sA (pA (pA σ14 76 ((30 + (2 * (sA σ14 76 4))).toNatClampNeg) x1) 76 (((30 + (2 * (sA (pA σ14 76 ((30 + (2 * (sA σ14 76 4))).toNatClampNeg) x1) 76 4))) + 1).toNatClampNeg) x2) 76 4) + 1) rfl dX6_reading_94 ?_
        refine lv_iconst (v := 1) hx hb dX6_reading_95 (by decide) ?_
        refine lv_isub hx hb dX6_reading_96 ?_
        obtain rfl := Option.some.inj hf
        exact x_iret C hR hS dX6_reading_97 ⟨rfl, rfl⟩
      · replace hf := (if_pos c_35).symm.trans hf
        refine lv_aload_n hx hb dX6_reading_38 rfl (lv_at hl 0 rfl) ?_
        obtain ⟨r39_, σ39_, hc_39, hf⟩ := bd_some hf
        refine x_cvI C hl.1 hR hS (c_X6_full l G σ14 _ hc_39) gX6_reading_X6_full rfl hdV_X6_full ⟨Nat.le_of_ble_eq_true rfl, Nat.le_of_ble_eq_true rfl⟩ (by decide) (cz5 rfl) rfl rfl (As := []) (rest := []) rfl (Nat.le_of_ble_eq_true rfl) ⟨Nat.le_of_ble_eq_true rfl, Nat.le_of_ble_eq_true rfl⟩ dX6_reading_39 (fun r39 σ39 H locs hq_39 hR hS => ?_)
        obtain ⟨rfl, rfl⟩ := hq_39
        obtain rfl := Option.some.inj hf
        exact x_iret C hR hS dX6_reading_42 ⟨rfl, rfl⟩
    · replace hf := (if_pos c_17).symm.trans hf
      refine lv_aload_n hx hb dX6_reading_20 rfl (lv_at hl 0 rfl) ?_
      refine lv_bipush (v := (-2)) hx hb dX6_reading_21 (by decide) ?_
      obtain ⟨r23_, σ23_, hc_23, hf⟩ := bd_some hf
      refine x_cvI C hl.1 hR hS (c_X6_bad l G (-2) σ14 _ hc_23) gX6_reading_X6_bad rfl hdV_X6_bad ⟨Nat.le_of_ble_eq_true rfl, Nat.le_of_ble_eq_true rfl⟩ (by decide) (cz5 rfl) rfl rfl (As := [.int (-2)]) (rest := []) rfl (Nat.le_of_ble_eq_true rfl) ⟨Nat.le_of_ble_eq_true rfl, Nat.le_of_ble_eq_true rfl⟩ dX6_reading_23 (fun r23 σ23 H locs hq_23 hR hS => ?_)
      obtain ⟨rfl, rfl⟩ := hq_23
      obtain rfl := Option.some.inj hf
      exact x_iret C hR hS dX6_reading_26 ⟨rfl, rfl⟩
theorem hdV_X6_forget : yX6_forget.cls = RX6 ∧ yX6_forget.cls ≠ "java/lang/invoke/MethodHandle" ∧ yX6_forget.cls ≠ "java/lang/invoke/VarHandle" ∧ (parseMethodDescriptor yX6_forget.desc).map (fun d => d.parameters.length) = some 0 := by decide +kernel
def f_X6_forget (σ : St) : Option (Int32 × St) :=
  some (sA σ 76 4, (pA σ 76 4 0))
set_option maxHeartbeats 4000000 in
set_option maxRecDepth 100000 in
theorem c_X6_forget (l : Launch) (G : GG) (σ : St) (res : Int32 × St) (hf : f_X6_forget σ = some res) : CI l yX6_forget wsX6_forget 0 [.ref (G.2.1 75)] G σ (fun r u => r = res.1 ∧ u = res.2) := by
  refine x_ent (ret := (some .int)) cX6_forget 2 (by decide) rfl (Nat.le_of_ble_eq_true rfl) ?_
  intro p e s m below meth c ls C hR hS hl
  have C : Cx p s m [.ref (G.2.1 75)].toArray meth c cX6_forget RX6 wsX6_forget (some .int) 2 G := C
  have hx := C.1
  have hb := C.2.1
  have hl : lv_has ls 2 [(0, .ref (G.2.1 75))] := hl
  have inX6 : ∀ w ∈ u_ws RX6 TX6 22, w ∈ wsX6_forget := fun w h => List.mem_cons_of_mem _ (List.mem_append_right _ h)
  unfold f_X6_forget at hf
  refine lv_aload_n hx hb dX6_forget_0 rfl (lv_at hl 0 rfl) ?_
  refine x_get C hR inX6 75 (by decide) (cz5 rfl) rfl 0 (by decide) 1 rfl (.ref (G.2.1 76)) rfl dX6_forget_1 ?_
  refine lv_iconst (v := 4) hx hb dX6_forget_4 (by decide) ?_
  refine x_iald C hR 76 rfl (x_in rfl) (n := 4) rfl (sA σ 76 4) rfl dX6_forget_5 ?_
  refine lv_istore_n (lv' := [(1, .int (sA σ 76 4)), (0, .ref (G.2.1 75))]) hx hb dX6_forget_6 rfl hl (by decide) rfl (fun ls hl => ?_)
  refine lv_aload_n hx hb dX6_forget_7 rfl (lv_at hl 1 rfl) ?_
  refine x_get C hR inX6 75 (by decide) (cz5 rfl) rfl 0 (by decide) 1 rfl (.ref (G.2.1 76)) rfl dX6_forget_8 ?_
  refine lv_iconst (v := 4) hx hb dX6_forget_11 (by decide) ?_
  refine lv_iconst (v := 0) hx hb dX6_forget_12 (by decide) ?_
  refine x_iast C hR hS 76 rfl (x_in rfl) (n := 4) rfl dX6_forget_13 (fun H locs hR hS => ?_)
  refine lv_iload_n hx hb dX6_forget_14 rfl (lv_at hl 0 rfl) ?_
  obtain rfl := Option.some.inj hf
  exact x_iret C hR hS dX6_forget_15 ⟨rfl, rfl⟩
theorem hdV_X6_areSo : yX6_areSo.cls = RX6 ∧ yX6_areSo.cls ≠ "java/lang/invoke/MethodHandle" ∧ yX6_areSo.cls ≠ "java/lang/invoke/VarHandle" ∧ (parseMethodDescriptor yX6_areSo.desc).map (fun d => d.parameters.length) = some 0 := by decide +kernel
def f_X6_areSo_55 (rc4 : Int32 → Int32 → St → Option (Int32 × St)) (x2 : Int32) (t0 : Int32) (σ : St) : Option (Int32 × St) :=
  rc4 t0 (x2 + 1) σ
def f_X6_areSo_54 (rc4 : Int32 → Int32 → St → Option (Int32 × St)) (x2 : Int32) (σ : St) : Option (Int32 × St) :=
  f_X6_areSo_55 rc4 x2 0 σ
def f_X6_areSo_4 : Nat → Int32 → Int32 → St → Option (Int32 × St)
  | 0, _, _, _ => none
  | n + 1, x1, x2, σ => (if (sA σ 76 4) ≤ x2 then gb x1 (some (x1, σ)) else (if x1 = 0 then f_X6_areSo_54 (f_X6_areSo_4 n) x2 σ else gd ((30 + (2 * x2)) < 0 ∨ 122 ≤ (30 + (2 * x2)).toNatClampNeg) (gd ((sA σ 76 ((30 + (2 * x2)).toNatClampNeg)) < 0 ∨ 8 ≤ (sA σ 76 ((30 + (2 * x2)).toNatClampNeg)).toNatClampNeg) (gd (((30 + (2 * x2)) + 1) < 0 ∨ 122 ≤ ((30 + (2 * x2)) + 1).toNatClampNeg) ((if (sA σ 82 ((sA σ 76 ((30 + (2 * x2)).toNatClampNeg)).toNatClampNeg)) = (sA σ 76 (((30 + (2 * x2)) + 1).toNatClampNeg)) then f_X6_areSo_55 (f_X6_areSo_4 n) x2 1 σ else f_X6_areSo_54 (f_X6_areSo_4 n) x2 σ))))))
def f_X6_areSo (σ : St) : Option (Int32 × St) :=
  f_X6_areSo_4 FU 1 0 σ
set_option maxHeartbeats 4000000 in
set_option maxRecDepth 100000 in
theorem w_X6_areSo_55 {p : Program} {l : Launch} {e : Env} {s : State} {m : MethodId} {args : Array Value} {below : List Frame} {meth : Method} {c : Code} {G : GG} (C : Cx p s m args meth c cX6_areSo RX6 wsX6_areSo (some .boolean) 3 G) {res : Int32 × St} {rc4 : Int32 → Int32 → St → Option (Int32 × St)} (hrc4 : ∀ (x1 : Int32) (x2 : Int32) (σ : St), rc4 x1 x2 σ = some res → WC p l e 0 s m args below meth c G (QI G res) 3 4 [(0, .ref (G.2.1 75)), (1, .int x1), (2, .int x2)] [] σ) : ∀ (x2 : Int32) (t0 : Int32) (σ : St), f_X6_areSo_55 rc4 x2 t0 σ = some res → WC p l e 0 s m args below meth c G (QI G res) 3 55 [(0, .ref (G.2.1 75)), (2, .int x2)] [.int t0] σ := by
  have hx := C.1
  have hb := C.2.1
  have inX6 : ∀ w ∈ u_ws RX6 TX6 22, w ∈ wsX6_areSo := fun w h => List.mem_cons_of_mem _ (List.mem_append_right _ h)
  intro x2 t0 σ hf _ _ _ hR hS hl
  unfold f_X6_areSo_55 at hf
  refine lv_istore_n (lv' := [(1, .int t0), (0, .ref (G.2.1 75)), (2, .int x2)]) hx hb dX6_areSo_55 rfl hl (by decide) rfl (fun ls hl => ?_)
  refine lv_iinc (v := x2 + 1) (lv' := [(2, .int (x2 + 1)), (1, .int t0), (0, .ref (G.2.1 75))]) hx hb dX6_areSo_56 hl (k := 2) rfl rfl (by decide) rfl (fun ls hl => ?_)
  refine lv_goto (tgt := 4) hx hb dX6_areSo_59 (by decide) ?_
  exact hrc4 t0 (x2 + 1) _ hf _ _ _ hR hS (lv_sub hl [2, 1, 0] rfl)
set_option maxHeartbeats 4000000 in
set_option maxRecDepth 100000 in
theorem w_X6_areSo_54 {p : Program} {l : Launch} {e : Env} {s : State} {m : MethodId} {args : Array Value} {below : List Frame} {meth : Method} {c : Code} {G : GG} (C : Cx p s m args meth c cX6_areSo RX6 wsX6_areSo (some .boolean) 3 G) {res : Int32 × St} {rc4 : Int32 → Int32 → St → Option (Int32 × St)} (hrc4 : ∀ (x1 : Int32) (x2 : Int32) (σ : St), rc4 x1 x2 σ = some res → WC p l e 0 s m args below meth c G (QI G res) 3 4 [(0, .ref (G.2.1 75)), (1, .int x1), (2, .int x2)] [] σ) : ∀ (x2 : Int32) (σ : St), f_X6_areSo_54 rc4 x2 σ = some res → WC p l e 0 s m args below meth c G (QI G res) 3 54 [(0, .ref (G.2.1 75)), (2, .int x2)] [] σ := by
  have hx := C.1
  have hb := C.2.1
  have inX6 : ∀ w ∈ u_ws RX6 TX6 22, w ∈ wsX6_areSo := fun w h => List.mem_cons_of_mem _ (List.mem_append_right _ h)
  intro x2 σ hf _ _ _ hR hS hl
  unfold f_X6_areSo_54 at hf
  refine lv_iconst (v := 0) hx hb dX6_areSo_54 (by decide) ?_
  exact w_X6_areSo_55 C hrc4 x2 0 _ hf _ _ _ hR hS (lv_sub hl [0, 1] rfl)
set_option maxHeartbeats 4000000 in
set_option maxRecDepth 100000 in
theorem w_X6_areSo_4 {p : Program} {l : Launch} {e : Env} {s : State} {m : MethodId} {args : Array Value} {below : List Frame} {meth : Method} {c : Code} {G : GG} (C : Cx p s m args meth c cX6_areSo RX6 wsX6_areSo (some .boolean) 3 G) {res : Int32 × St} : ∀ (n : Nat) (x1 : Int32) (x2 : Int32) (σ : St), f_X6_areSo_4 n x1 x2 σ = some res → WC p l e 0 s m args below meth c G (QI G res) 3 4 [(0, .ref (G.2.1 75)), (1, .int x1), (2, .int x2)] [] σ := by
  have hx := C.1
  have hb := C.2.1
  have inX6 : ∀ w ∈ u_ws RX6 TX6 22, w ∈ wsX6_areSo := fun w h => List.mem_cons_of_mem _ (List.mem_append_right _ h)
  intro n
  induction n with
  | zero => intro x1 x2 σ hf; cases hf
  | succ n hrc4 =>
    intro x1 x2 σ hf _ _ _ hR hS hl
    unfold f_X6_areSo_4 at hf
    refine lv_iload_n hx hb dX6_areSo_4 rfl (lv_at hl 2 rfl) ?_
    refine lv_aload_n hx hb dX6_areSo_5 rfl (lv_at hl 0 rfl) ?_
    refine x_get C hR inX6 75 (by decide) (cz5 rfl) rfl 0 (by decide) 1 rfl (.ref (G.2.1 76)) rfl dX6_areSo_6 ?_
    refine lv_iconst (v := 4) hx hb dX6_areSo_9 (by decide) ?_
    refine x_iald C hR 76 rfl (x_in rfl) (n := 4) rfl (sA σ 76 4) rfl dX6_areSo_10 ?_
    refine lv_icmp_ge (tgt := 62) hx hb dX6_areSo_11 (by decide) (fun c_11 => ?_) (fun c_11 => ?_)
    · replace hf := (if_pos c_11).symm.trans hf
      refine lv_iload_n hx hb dX6_areSo_62 rfl (lv_at hl 1 rfl) ?_
      obtain ⟨z_63, hf⟩ := gb_some hf
      obtain rfl := Option.some.inj hf
      exact x_zret C hR hS dX6_areSo_63 z_63 ⟨rfl, rfl⟩
    · replace hf := (if_neg c_11).symm.trans hf
      refine lv_iload_n hx hb dX6_areSo_14 rfl (lv_at hl 1 rfl) ?_
      refine lv_if_eq (tgt := 54) hx hb dX6_areSo_15 (by decide) (fun c_15 => ?_) (fun c_15 => ?_)
      · replace hf := (if_pos c_15).symm.trans hf
        exact w_X6_areSo_54 C hrc4 x2 _ hf _ _ _ hR hS (lv_sub hl [0, 2] rfl)
      · replace hf := (if_neg c_15).symm.trans hf
        refine lv_aload_n hx hb dX6_areSo_18 rfl (lv_at hl 0 rfl) ?_
        refine x_get C hR inX6 75 (by decide) (cz5 rfl) rfl 8 (by decide) 2 rfl (.ref (G.2.1 82)) rfl dX6_areSo_19 ?_
        refine lv_aload_n hx hb dX6_areSo_22 rfl (lv_at hl 0 rfl) ?_
        refine x_get C hR inX6 75 (by decide) (cz5 rfl) rfl 0 (by decide) 1 rfl (.ref (G.2.1 76)) rfl dX6_areSo_23 ?_
        refine lv_bipush (v := 30) hx hb dX6_areSo_26 (by decide) ?_
        refine lv_iconst (v := 2) hx hb dX6_areSo_28 (by decide) ?_
        refine lv_iload_n hx hb dX6_areSo_29 rfl (lv_at hl 2 rfl) ?_
        refine lv_imul hx hb dX6_areSo_30 ?_
        refine lv_iadd hx hb dX6_areSo_31 ?_
        obtain ⟨z_32, hf⟩ := gd_some hf
        refine x_iald C hR 76 rfl z_32 (n := (30 + (2 * x2)).toNatClampNeg) rfl (sA σ 76 ((30 + (2 * x2)).toNatClampNeg)) rfl dX6_areSo_32 ?_
        obtain ⟨z_33, hf⟩ := gd_some hf
        refine x_iald C hR 82 rfl z_33 (n := (sA σ 76 ((30 + (2 * x2)).toNatClampNeg)).toNatClampNeg) rfl (sA σ 82 ((sA σ 76 ((30 + (2 * x2)).toNatClampNeg)).toNatClampNeg)) rfl dX6_areSo_33 ?_
        refine lv_aload_n hx hb dX6_areSo_34 rfl (lv_at hl 0 rfl) ?_
        refine x_get C hR inX6 75 (by decide) (cz5 rfl) rfl 0 (by decide) 1 rfl (.ref (G.2.1 76)) rfl dX6_areSo_35 ?_
        refine lv_bipush (v := 30) hx hb dX6_areSo_38 (by decide) ?_
        refine lv_iconst (v := 2) hx hb dX6_areSo_40 (by decide) ?_
        refine lv_iload_n hx hb dX6_areSo_41 rfl (lv_at hl 2 rfl) ?_
        refine lv_imul hx hb dX6_areSo_42 ?_
        refine lv_iadd hx hb dX6_areSo_43 ?_
        refine lv_iconst (v := 1) hx hb dX6_areSo_44 (by decide) ?_
        refine lv_iadd hx hb dX6_areSo_45 ?_
        obtain ⟨z_46, hf⟩ := gd_some hf
        refine x_iald C hR 76 rfl z_46 (n := ((30 + (2 * x2)) + 1).toNatClampNeg) rfl (sA σ 76 (((30 + (2 * x2)) + 1).toNatClampNeg)) rfl dX6_areSo_46 ?_
        refine lv_icmp_ne (tgt := 54) hx hb dX6_areSo_47 (by decide) (fun c_47 => ?_) (fun c_47 => ?_)
        · replace hf := (if_neg c_47).symm.trans hf
          exact w_X6_areSo_54 C hrc4 x2 _ hf _ _ _ hR hS (lv_sub hl [0, 2] rfl)
        · replace hf := (if_pos c_47).symm.trans hf
          refine lv_iconst (v := 1) hx hb dX6_areSo_50 (by decide) ?_
          refine lv_goto (tgt := 55) hx hb dX6_areSo_51 (by decide) ?_
          exact w_X6_areSo_55 C hrc4 x2 1 _ hf _ _ _ hR hS (lv_sub hl [0, 2] rfl)
set_option maxHeartbeats 4000000 in
set_option maxRecDepth 100000 in
theorem c_X6_areSo (l : Launch) (G : GG) (σ : St) (res : Int32 × St) (hf : f_X6_areSo σ = some res) : CI l yX6_areSo wsX6_areSo 0 [.ref (G.2.1 75)] G σ (fun r u => r = res.1 ∧ u = res.2) := by
  refine x_ent (ret := (some .boolean)) cX6_areSo 3 (by decide) rfl (Nat.le_of_ble_eq_true rfl) ?_
  intro p e s m below meth c ls C hR hS hl
  have C : Cx p s m [.ref (G.2.1 75)].toArray meth c cX6_areSo RX6 wsX6_areSo (some .boolean) 3 G := C
  have hx := C.1
  have hb := C.2.1
  have hl : lv_has ls 3 [(0, .ref (G.2.1 75))] := hl
  have inX6 : ∀ w ∈ u_ws RX6 TX6 22, w ∈ wsX6_areSo := fun w h => List.mem_cons_of_mem _ (List.mem_append_right _ h)
  unfold f_X6_areSo at hf
  refine lv_iconst (v := 1) hx hb dX6_areSo_0 (by decide) ?_
  refine lv_istore_n (lv' := [(1, .int 1), (0, .ref (G.2.1 75))]) hx hb dX6_areSo_1 rfl hl (by decide) rfl (fun ls hl => ?_)
  refine lv_iconst (v := 0) hx hb dX6_areSo_2 (by decide) ?_
  refine lv_istore_n (lv' := [(2, .int 0), (1, .int 1), (0, .ref (G.2.1 75))]) hx hb dX6_areSo_3 rfl hl (by decide) rfl (fun ls hl => ?_)
  exact w_X6_areSo_4 C  FU 1 0 _ hf _ _ _ hR hS (lv_sub hl [2, 1, 0] rfl)
theorem hdV_X6_leads : yX6_leads.cls = RX6 ∧ yX6_leads.cls ≠ "java/lang/invoke/MethodHandle" ∧ yX6_leads.cls ≠ "java/lang/invoke/VarHandle" ∧ (parseMethodDescriptor yX6_leads.desc).map (fun d => d.parameters.length) = some 3 := by decide +kernel
def f_X6_leads_77 (rc42 : Int32 → Int32 → Int32 → Int32 → Int32 → St → Option (Int32 × St)) (x1 : Int32) (x2 : Int32) (x3 : Int32) (x5 : Int32) (t0 : Int32) (t1 : Int32) (σ : St) : Option (Int32 × St) :=
  rc42 x1 x2 x3 (t1 ||| t0) (x5 + 1) σ
def f_X6_leads_42 : Nat → Int32 → Int32 → Int32 → Int32 → Int32 → St → Option (Int32 × St)
  | 0, _, _, _, _, _, _ => none
  | n + 1, x1, x2, x3, x4, x5, σ => (if 10 ≤ x5 then some (x4, σ) else bd (f_X6_runNow x1 x2 x5 x3 σ) (fun r55 σ55 => bd (f_X6_areSo σ55) (fun r63 σ63 => (if r63 = 0 then f_X6_leads_77 (f_X6_leads_42 n) x1 x2 x3 x5 0 x4 σ63 else f_X6_leads_77 (f_X6_leads_42 n) x1 x2 x3 x5 (1 <<< (x5 &&& 31)) x4 σ63))))
def f_X6_leads (x1 : Int32) (x2 : Int32) (x3 : Int32) (σ : St) : Option (Int32 × St) :=
  bd (f_X6_isDown x1 σ) (fun r1 σ1 => (if r1 = 0 then bd (f_X6_bad (-2) σ1) (fun r32 σ32 => some (r32, σ32)) else bd (f_X6_in x2.toInt64 1 2 σ1) (fun r13 σ13 => (if r13 = 0 then bd (f_X6_bad (-2) σ13) (fun r32 σ32 => some (r32, σ32)) else bd (f_X6_in x3.toInt64 0 1 σ13) (fun r23 σ23 => (if r23 = 0 then bd (f_X6_bad (-2) σ23) (fun r32 σ32 => some (r32, σ32)) else f_X6_leads_42 FU x1 x2 x3 0 1 σ23))))))
set_option maxHeartbeats 4000000 in
set_option maxRecDepth 100000 in
theorem w_X6_leads_77 {p : Program} {l : Launch} {e : Env} {s : State} {m : MethodId} {args : Array Value} {below : List Frame} {meth : Method} {c : Code} {G : GG} (C : Cx p s m args meth c cX6_leads RX6 wsX6_leads (some .int) 7 G) {res : Int32 × St} {rc42 : Int32 → Int32 → Int32 → Int32 → Int32 → St → Option (Int32 × St)} (hrc42 : ∀ (x1 : Int32) (x2 : Int32) (x3 : Int32) (x4 : Int32) (x5 : Int32) (σ : St), rc42 x1 x2 x3 x4 x5 σ = some res → WC p l e 4 s m args below meth c G (QI G res) 7 42 [(0, .ref (G.2.1 75)), (1, .int x1), (2, .int x2), (3, .int x3), (4, .int x4), (5, .int x5)] [] σ) : ∀ (x1 : Int32) (x2 : Int32) (x3 : Int32) (x5 : Int32) (t0 : Int32) (t1 : Int32) (σ : St), f_X6_leads_77 rc42 x1 x2 x3 x5 t0 t1 σ = some res → WC p l e 4 s m args below meth c G (QI G res) 7 77 [(0, .ref (G.2.1 75)), (1, .int x1), (2, .int x2), (3, .int x3), (5, .int x5)] [.int t0, .int t1] σ := by
  have hx := C.1
  have hb := C.2.1
  intro x1 x2 x3 x5 t0 t1 σ hf _ _ _ hR hS hl
  unfold f_X6_leads_77 at hf
  refine lv_ior hx hb dX6_leads_77 ?_
  refine lv_istore (lv' := [(4, .int (t1 ||| t0)), (0, .ref (G.2.1 75)), (1, .int x1), (2, .int x2), (3, .int x3), (5, .int x5)]) hx hb dX6_leads_78 hl (by decide) rfl (fun ls hl => ?_)
  refine lv_iinc (v := x5 + 1) (lv' := [(5, .int (x5 + 1)), (4, .int (t1 ||| t0)), (0, .ref (G.2.1 75)), (1, .int x1), (2, .int x2), (3, .int x3)]) hx hb dX6_leads_80 hl (k := 5) rfl rfl (by decide) rfl (fun ls hl => ?_)
  refine lv_goto (tgt := 42) hx hb dX6_leads_83 (by decide) ?_
  exact hrc42 x1 x2 x3 (t1 ||| t0) (x5 + 1) _ hf _ _ _ hR hS (lv_sub hl [2, 3, 4, 5, 1, 0] rfl)
set_option maxHeartbeats 4000000 in
set_option maxRecDepth 100000 in
theorem w_X6_leads_42 {p : Program} {l : Launch} {e : Env} {s : State} {m : MethodId} {args : Array Value} {below : List Frame} {meth : Method} {c : Code} {G : GG} (C : Cx p s m args meth c cX6_leads RX6 wsX6_leads (some .int) 7 G) {res : Int32 × St} : ∀ (n : Nat) (x1 : Int32) (x2 : Int32) (x3 : Int32) (x4 : Int32) (x5 : Int32) (σ : St), f_X6_leads_42 n x1 x2 x3 x4 x5 σ = some res → WC p l e 4 s m args below meth c G (QI G res) 7 42 [(0, .ref (G.2.1 75)), (1, .int x1), (2, .int x2), (3, .int x3), (4, .int x4), (5, .int x5)] [] σ := by
  have hx := C.1
  have hb := C.2.1
  intro n
  induction n with
  | zero => intro x1 x2 x3 x4 x5 σ hf; cases hf
  | succ n hrc42 =>
    intro x1 x2 x3 x4 x5 σ hf _ _ _ hR hS hl
    unfold f_X6_leads_42 at hf
    refine lv_iload hx hb dX6_leads_42 (lv_at hl 5 rfl) ?_
    refine lv_bipush (v := 10) hx hb dX6_leads_44 (by decide) ?_
    refine lv_icmp_ge (tgt := 86) hx hb dX6_leads_46 (by decide) (fun c_46 => ?_) (fun c_46 => ?_)
    · replace hf := (if_pos c_46).symm.trans hf
      refine lv_iload hx hb dX6_leads_86 (lv_at hl 4 rfl) ?_
      obtain rfl := Option.some.inj hf
      exact x_iret C hR hS dX6_leads_88 ⟨rfl, rfl⟩
    · replace hf := (if_neg c_46).symm.trans hf
      refine lv_aload_n hx hb dX6_leads_49 rfl (lv_at hl 0 rfl) ?_
      refine lv_iload_n hx hb dX6_leads_50 rfl (lv_at hl 1 rfl) ?_
      refine lv_iload_n hx hb dX6_leads_51 rfl (lv_at hl 2 rfl) ?_
      refine lv_iload hx hb dX6_leads_52 (lv_at hl 5 rfl) ?_
      refine lv_iload_n hx hb dX6_leads_54 rfl (lv_at hl 3 rfl) ?_
      obtain ⟨r55_, σ55_, hc_55, hf⟩ := bd_some hf
      refine x_cvI C hl.1 hR hS (c_X6_runNow l G x1 x2 x5 x3 σ _ hc_55) gX6_leads_X6_runNow rfl hdV_X6_runNow ⟨Nat.le_of_ble_eq_true rfl, Nat.le_of_ble_eq_true rfl⟩ (by decide) (cz5 rfl) rfl rfl (As := [.int x1, .int x2, .int x5, .int x3]) (rest := []) rfl (Nat.le_of_ble_eq_true rfl) ⟨Nat.le_of_ble_eq_true rfl, Nat.le_of_ble_eq_true rfl⟩ dX6_leads_55 (fun r55 σ55 H locs hq_55 hR hS => ?_)
      obtain ⟨rfl, rfl⟩ := hq_55
      refine lv_istore (lv' := [(6, .int r55), (0, .ref (G.2.1 75)), (1, .int x1), (2, .int x2), (3, .int x3), (4, .int x4), (5, .int x5)]) hx hb dX6_leads_58 hl (by decide) rfl (fun ls hl => ?_)
      refine lv_iload hx hb dX6_leads_60 (lv_at hl 5 rfl) ?_
      refine lv_aload_n hx hb dX6_leads_62 rfl (lv_at hl 1 rfl) ?_
      obtain ⟨r63_, σ63_, hc_63, hf⟩ := bd_some hf
      refine x_cvI C hl.1 hR hS (c_X6_areSo l G σ55 _ hc_63) gX6_leads_X6_areSo rfl hdV_X6_areSo ⟨Nat.le_of_ble_eq_true rfl, Nat.le_of_ble_eq_true rfl⟩ (by decide) (cz5 rfl) rfl rfl (As := []) (rest := [.int x4]) rfl (Nat.le_of_ble_eq_true rfl) ⟨Nat.le_of_ble_eq_true rfl, Nat.le_of_ble_eq_true rfl⟩ dX6_leads_63 (fun r63 σ63 H locs hq_63 hR hS => ?_)
      obtain ⟨rfl, rfl⟩ := hq_63
      refine lv_if_eq (tgt := 76) hx hb dX6_leads_66 (by decide) (fun c_66 => ?_) (fun c_66 => ?_)
      · replace hf := (if_pos c_66).symm.trans hf
        refine lv_iconst (v := 0) hx hb dX6_leads_76 (by decide) ?_
        exact w_X6_leads_77 C hrc42 x1 x2 x3 x5 0 x4 _ hf _ _ _ hR hS (lv_sub hl [1, 2, 3, 4, 6] rfl)
      · replace hf := (if_neg c_66).symm.trans hf
        refine lv_iconst (v := 1) hx hb dX6_leads_69 (by decide) ?_
        refine lv_iload hx hb dX6_leads_70 (lv_at hl 6 rfl) ?_
        refine lv_ishl hx hb dX6_leads_72 ?_
        refine lv_goto (tgt := 77) hx hb dX6_leads_73 (by decide) ?_
        exact w_X6_leads_77 C hrc42 x1 x2 x3 x5 (1 <<< (x5 &&& 31)) x4 _ hf _ _ _ hR hS (lv_sub hl [1, 2, 3, 4, 6] rfl)
set_option maxHeartbeats 4000000 in
set_option maxRecDepth 100000 in
theorem c_X6_leads (l : Launch) (G : GG) (x1 : Int32) (x2 : Int32) (x3 : Int32) (σ : St) (res : Int32 × St) (hf : f_X6_leads x1 x2 x3 σ = some res) : CI l yX6_leads wsX6_leads 4 [.ref (G.2.1 75), .int x1, .int x2, .int x3] G σ (fun r u => r = res.1 ∧ u = res.2) := by
  refine x_ent (ret := (some .int)) cX6_leads 7 (by decide) rfl (Nat.le_of_ble_eq_true rfl) ?_
  intro p e s m below meth c ls C hR hS hl
  have C : Cx p s m [.ref (G.2.1 75), .int x1, .int x2, .int x3].toArray meth c cX6_leads RX6 wsX6_leads (some .int) 7 G := C
  have hx := C.1
  have hb := C.2.1
  have hl : lv_has ls 7 [(0, .ref (G.2.1 75)), (1, .int x1), (2, .int x2), (3, .int x3)] := hl
  unfold f_X6_leads at hf
  refine lv_iload_n hx hb dX6_leads_0 rfl (lv_at hl 1 rfl) ?_
  obtain ⟨r1_, σ1_, hc_1, hf⟩ := bd_some hf
  refine x_csI C hl.1 hR hS (c_X6_isDown l G x1 σ _ hc_1) gX6_leads_X6_isDown rfl hdS_X6_isDown ⟨Nat.le_of_ble_eq_true rfl, Nat.le_of_ble_eq_true rfl⟩ rfl (As := [.int x1]) (rest := []) rfl (Nat.le_of_ble_eq_true rfl) ⟨Nat.le_of_ble_eq_true rfl, Nat.le_of_ble_eq_true rfl⟩ dX6_leads_1 (fun r1 σ1 H locs hq_1 hR hS => ?_)
  obtain ⟨rfl, rfl⟩ := hq_1
  refine lv_if_eq (tgt := 29) hx hb dX6_leads_4 (by decide) (fun c_4 => ?_) (fun c_4 => ?_)
  · replace hf := (if_pos c_4).symm.trans hf
    refine lv_aload_n hx hb dX6_leads_29 rfl (lv_at hl 0 rfl) ?_
    refine lv_bipush (v := (-2)) hx hb dX6_leads_30 (by decide) ?_
    obtain ⟨r32_, σ32_, hc_32, hf⟩ := bd_some hf
    refine x_cvI C hl.1 hR hS (c_X6_bad l G (-2) σ1 _ hc_32) gX6_leads_X6_bad rfl hdV_X6_bad ⟨Nat.le_of_ble_eq_true rfl, Nat.le_of_ble_eq_true rfl⟩ (by decide) (cz5 rfl) rfl rfl (As := [.int (-2)]) (rest := []) rfl (Nat.le_of_ble_eq_true rfl) ⟨Nat.le_of_ble_eq_true rfl, Nat.le_of_ble_eq_true rfl⟩ dX6_leads_32 (fun r32 σ32 H locs hq_32 hR hS => ?_)
    obtain ⟨rfl, rfl⟩ := hq_32
    obtain rfl := Option.some.inj hf
    exact x_iret C hR hS dX6_leads_35 ⟨rfl, rfl⟩
  · replace hf := (if_neg c_4).symm.trans hf
    refine lv_iload_n hx hb dX6_leads_7 rfl (lv_at hl 2 rfl) ?_
    refine lv_i2l (v := x2.toInt64) hx hb dX6_leads_8 rfl ?_
    refine lv_lconst (v := 1) hx hb dX6_leads_9 (by decide) ?_
    refine lv_ldc2 (v := 2) hx hb C.2.2.2.2.1 (C.2.2.2.2.2.1 _ (List.mem_of_getElem? (i := 1) rfl)) dX6_leads_10 ?_
    obtain ⟨r13_, σ13_, hc_13, hf⟩ := bd_some hf
    refine x_csI C hl.1 hR hS (c_X6_in l G x2.toInt64 1 2 σ1 _ hc_13) gX6_leads_X6_in rfl hdS_X6_in ⟨Nat.le_of_ble_eq_true rfl, Nat.le_of_ble_eq_true rfl⟩ rfl (As := [.long x2.toInt64, .long 1, .long 2]) (rest := []) rfl (Nat.le_of_ble_eq_true rfl) ⟨Nat.le_of_ble_eq_true rfl, Nat.le_of_ble_eq_true rfl⟩ dX6_leads_13 (fun r13 σ13 H locs hq_13 hR hS => ?_)
    obtain ⟨rfl, rfl⟩ := hq_13
    refine lv_if_eq (tgt := 29) hx hb dX6_leads_16 (by decide) (fun c_16 => ?_) (fun c_16 => ?_)
    · replace hf := (if_pos c_16).symm.trans hf
      refine lv_aload_n hx hb dX6_leads_29 rfl (lv_at hl 0 rfl) ?_
      refine lv_bipush (v := (-2)) hx hb dX6_leads_30 (by decide) ?_
      obtain ⟨r32_, σ32_, hc_32, hf⟩ := bd_some hf
      refine x_cvI C hl.1 hR hS (c_X6_bad l G (-2) σ13 _ hc_32) gX6_leads_X6_bad rfl hdV_X6_bad ⟨Nat.le_of_ble_eq_true rfl, Nat.le_of_ble_eq_true rfl⟩ (by decide) (cz5 rfl) rfl rfl (As := [.int (-2)]) (rest := []) rfl (Nat.le_of_ble_eq_true rfl) ⟨Nat.le_of_ble_eq_true rfl, Nat.le_of_ble_eq_true rfl⟩ dX6_leads_32 (fun r32 σ32 H locs hq_32 hR hS => ?_)
      obtain ⟨rfl, rfl⟩ := hq_32
      obtain rfl := Option.some.inj hf
      exact x_iret C hR hS dX6_leads_35 ⟨rfl, rfl⟩
    · replace hf := (if_neg c_16).symm.trans hf
      refine lv_iload_n hx hb dX6_leads_19 rfl (lv_at hl 3 rfl) ?_
      refine lv_i2l (v := x3.toInt64) hx hb dX6_leads_20 rfl ?_
      refine lv_lconst (v := 0) hx hb dX6_leads_21 (by decide) ?_
      refine lv_lconst (v := 1) hx hb dX6_leads_22 (by decide) ?_
      obtain ⟨r23_, σ23_, hc_23, hf⟩ := bd_some hf
      refine x_csI C hl.1 hR hS (c_X6_in l G x3.toInt64 0 1 σ13 _ hc_23) gX6_leads_X6_in rfl hdS_X6_in ⟨Nat.le_of_ble_eq_true rfl, Nat.le_of_ble_eq_true rfl⟩ rfl (As := [.long x3.toInt64, .long 0, .long 1]) (rest := []) rfl (Nat.le_of_ble_eq_true rfl) ⟨Nat.le_of_ble_eq_true rfl, Nat.le_of_ble_eq_true rfl⟩ dX6_leads_23 (fun r23 σ23 H locs hq_23 hR hS => ?_)
      obtain ⟨rfl, rfl⟩ := hq_23
      refine lv_if_ne (tgt := 36) hx hb dX6_leads_26 (by decide) (fun c_26 => ?_) (fun c_26 => ?_)
      · replace hf := (if_neg c_26).symm.trans hf
        refine lv_iconst (v := 0) hx hb dX6_leads_36 (by decide) ?_
        refine lv_istore (lv' := [(4, .int 0), (0, .ref (G.2.1 75)), (1, .int x1), (2, .int x2), (3, .int x3)]) hx hb dX6_leads_37 hl (by decide) rfl (fun ls hl => ?_)
        refine lv_iconst (v := 1) hx hb dX6_leads_39 (by decide) ?_
        refine lv_istore (lv' := [(5, .int 1), (4, .int 0), (0, .ref (G.2.1 75)), (1, .int x1), (2, .int x2), (3, .int x3)]) hx hb dX6_leads_40 hl (by decide) rfl (fun ls hl => ?_)
        exact w_X6_leads_42 C  FU x1 x2 x3 0 1 _ hf _ _ _ hR hS (lv_sub hl [2, 3, 4, 5, 1, 0] rfl)
      · replace hf := (if_pos c_26).symm.trans hf
        refine lv_aload_n hx hb dX6_leads_29 rfl (lv_at hl 0 rfl) ?_
        refine lv_bipush (v := (-2)) hx hb dX6_leads_30 (by decide) ?_
        obtain ⟨r32_, σ32_, hc_32, hf⟩ := bd_some hf
        refine x_cvI C hl.1 hR hS (c_X6_bad l G (-2) σ23 _ hc_32) gX6_leads_X6_bad rfl hdV_X6_bad ⟨Nat.le_of_ble_eq_true rfl, Nat.le_of_ble_eq_true rfl⟩ (by decide) (cz5 rfl) rfl rfl (As := [.int (-2)]) (rest := []) rfl (Nat.le_of_ble_eq_true rfl) ⟨Nat.le_of_ble_eq_true rfl, Nat.le_of_ble_eq_true rfl⟩ dX6_leads_32 (fun r32 σ32 H locs hq_32 hR hS => ?_)
        obtain ⟨rfl, rfl⟩ := hq_32
        obtain rfl := Option.some.inj hf
        exact x_iret C hR hS dX6_leads_35 ⟨rfl, rfl⟩
theorem hdV_X6_tell : yX6_tell.cls = RX6 ∧ yX6_tell.cls ≠ "java/lang/invoke/MethodHandle" ∧ yX6_tell.cls ≠ "java/lang/invoke/VarHandle" ∧ (parseMethodDescriptor yX6_tell.desc).map (fun d => d.parameters.length) = some 2 := by decide +kernel
def f_X6_tell_5 : Nat → Int32 → Int32 → Int32 → Int32 → St → Option (St)
  | 0, _, _, _, _, _ => none
  | n + 1, x1, x2, x3, x4, σ => (if x4 = 0 then gd (x3 = 0) (gd (x3 = 0) (some (pL (pL σ 75 4 ((x1 / x3).toInt64)) 75 5 ((x2 / x3).toInt64)))) else gd (x4 = 0) ((f_X6_tell_5 n) x1 x2 x4 (x3 - x3 / x4 * x4) σ))
def f_X6_tell (x1 : Int32) (x2 : Int32) (σ : St) : Option (St) :=
  f_X6_tell_5 FU x1 x2 x1 x2 σ
set_option maxHeartbeats 4000000 in
set_option maxRecDepth 100000 in
theorem w_X6_tell_5 {p : Program} {l : Launch} {e : Env} {s : State} {m : MethodId} {args : Array Value} {below : List Frame} {meth : Method} {c : Code} {G : GG} (C : Cx p s m args meth c cX6_tell RX6 wsX6_tell none 6 G) {res : St} : ∀ (n : Nat) (x1 : Int32) (x2 : Int32) (x3 : Int32) (x4 : Int32) (σ : St), f_X6_tell_5 n x1 x2 x3 x4 σ = some res → WC p l e 0 s m args below meth c G (QV G res) 6 5 [(0, .ref (G.2.1 75)), (1, .int x1), (2, .int x2), (3, .int x3), (4, .int x4)] [] σ := by
  have hx := C.1
  have hb := C.2.1
  have inX6 : ∀ w ∈ u_ws RX6 TX6 22, w ∈ wsX6_tell := fun w h => List.mem_cons_of_mem _ (List.mem_append_right _ h)
  intro n
  induction n with
  | zero => intro x1 x2 x3 x4 σ hf; cases hf
  | succ n hrc5 =>
    intro x1 x2 x3 x4 σ hf _ _ _ hR hS hl
    unfold f_X6_tell_5 at hf
    refine lv_iload hx hb dX6_tell_5 (lv_at hl 4 rfl) ?_
    refine lv_if_eq (tgt := 26) hx hb dX6_tell_7 (by decide) (fun c_7 => ?_) (fun c_7 => ?_)
    · replace hf := (if_pos c_7).symm.trans hf
      refine lv_aload_n hx hb dX6_tell_26 rfl (lv_at hl 0 rfl) ?_
      refine lv_iload_n hx hb dX6_tell_27 rfl (lv_at hl 1 rfl) ?_
      refine lv_iload_n hx hb dX6_tell_28 rfl (lv_at hl 3 rfl) ?_
      obtain ⟨z_29, hf⟩ := gd_some hf
      refine lv_idiv hx hb dX6_tell_29 z_29 ?_
      refine lv_i2l (v := (x1 / x3).toInt64) hx hb dX6_tell_30 rfl ?_
      refine x_put (τ := (pL σ 75 4 ((x1 / x3).toInt64))) C hR hS inX6 tyX6 tyX6_ok nmX6 75 (by decide) (cz5 rfl) rfl 4 (by decide) (pfL5_4 rfl) pL_o 1 rfl rfl rfl rfl (Nat.le_of_ble_eq_true rfl) dX6_tell_31 (fun H locs hR hS => ?_)
      refine lv_aload_n hx hb dX6_tell_34 rfl (lv_at hl 0 rfl) ?_
      refine lv_iload_n hx hb dX6_tell_35 rfl (lv_at hl 2 rfl) ?_
      refine lv_iload_n hx hb dX6_tell_36 rfl (lv_at hl 3 rfl) ?_
      obtain ⟨z_37, hf⟩ := gd_some hf
      refine lv_idiv hx hb dX6_tell_37 z_37 ?_
      refine lv_i2l (v := (x2 / x3).toInt64) hx hb dX6_tell_38 rfl ?_
      refine x_put (τ := (pL (pL σ 75 4 ((x1 / x3).toInt64)) 75 5 ((x2 / x3).toInt64))) C hR hS inX6 tyX6 tyX6_ok nmX6 75 (by decide) (cz5 rfl) rfl 5 (by decide) (pfL5_5 rfl) pL_o 2 rfl rfl rfl rfl (Nat.le_of_ble_eq_true rfl) dX6_tell_39 (fun H locs hR hS => ?_)
      obtain rfl := Option.some.inj hf
      exact x_vret C hR hS dX6_tell_42 rfl
    · replace hf := (if_neg c_7).symm.trans hf
      refine lv_iload_n hx hb dX6_tell_10 rfl (lv_at hl 3 rfl) ?_
      refine lv_iload hx hb dX6_tell_11 (lv_at hl 4 rfl) ?_
      obtain ⟨z_13, hf⟩ := gd_some hf
      refine lv_irem hx hb dX6_tell_13 z_13 ?_
      refine lv_istore (lv' := [(5, .int (x3 - x3 / x4 * x4)), (0, .ref (G.2.1 75)), (1, .int x1), (2, .int x2), (3, .int x3), (4, .int x4)]) hx hb dX6_tell_14 hl (by decide) rfl (fun ls hl => ?_)
      refine lv_iload hx hb dX6_tell_16 (lv_at hl 5 rfl) ?_
      refine lv_istore_n (lv' := [(3, .int x4), (5, .int (x3 - x3 / x4 * x4)), (0, .ref (G.2.1 75)), (1, .int x1), (2, .int x2), (4, .int x4)]) hx hb dX6_tell_18 rfl hl (by decide) rfl (fun ls hl => ?_)
      refine lv_iload hx hb dX6_tell_19 (lv_at hl 1 rfl) ?_
      refine lv_istore (lv' := [(4, .int (x3 - x3 / x4 * x4)), (3, .int x4), (5, .int (x3 - x3 / x4 * x4)), (0, .ref (G.2.1 75)), (1, .int x1), (2, .int x2)]) hx hb dX6_tell_21 hl (by decide) rfl (fun ls hl => ?_)
      refine lv_goto (tgt := 5) hx hb dX6_tell_23 (by decide) ?_
      exact hrc5 x1 x2 x4 (x3 - x3 / x4 * x4) _ hf _ _ _ hR hS (lv_sub hl [3, 4, 5, 1, 0] rfl)
set_option maxHeartbeats 4000000 in
set_option maxRecDepth 100000 in
theorem c_X6_tell (l : Launch) (G : GG) (x1 : Int32) (x2 : Int32) (σ : St) (res : St) (hf : f_X6_tell x1 x2 σ = some res) : CV l yX6_tell wsX6_tell 0 [.ref (G.2.1 75), .int x1, .int x2] G σ (fun u => u = res) := by
  refine x_ent (ret := none) cX6_tell 6 (by decide) rfl (Nat.le_of_ble_eq_true rfl) ?_
  intro p e s m below meth c ls C hR hS hl
  have C : Cx p s m [.ref (G.2.1 75), .int x1, .int x2].toArray meth c cX6_tell RX6 wsX6_tell none 6 G := C
  have hx := C.1
  have hb := C.2.1
  have hl : lv_has ls 6 [(0, .ref (G.2.1 75)), (1, .int x1), (2, .int x2)] := hl
  have inX6 : ∀ w ∈ u_ws RX6 TX6 22, w ∈ wsX6_tell := fun w h => List.mem_cons_of_mem _ (List.mem_append_right _ h)
  unfold f_X6_tell at hf
  refine lv_iload_n hx hb dX6_tell_0 rfl (lv_at hl 1 rfl) ?_
  refine lv_istore_n (lv' := [(3, .int x1), (0, .ref (G.2.1 75)), (1, .int x1), (2, .int x2)]) hx hb dX6_tell_1 rfl hl (by decide) rfl (fun ls hl => ?_)
  refine lv_iload_n hx hb dX6_tell_2 rfl (lv_at hl 3 rfl) ?_
  refine lv_istore (lv' := [(4, .int x2), (3, .int x1), (0, .ref (G.2.1 75)), (1, .int x1), (2, .int x2)]) hx hb dX6_tell_3 hl (by decide) rfl (fun ls hl => ?_)
  exact w_X6_tell_5 C  FU x1 x2 x1 x2 _ hf _ _ _ hR hS (lv_sub hl [2, 3, 4, 1, 0] rfl)
theorem hdV_X6_drawn : yX6_drawn.cls = RX6 ∧ yX6_drawn.cls ≠ "java/lang/invoke/MethodHandle" ∧ yX6_drawn.cls ≠ "java/lang/invoke/VarHandle" ∧ (parseMethodDescriptor yX6_drawn.desc).map (fun d => d.parameters.length) = some 4 := by decide +kernel
def f_X6_drawn_73 (rc60 : Int32 → Int32 → Int32 → Int64 → Int32 → Int32 → St → Option (Int32 × St)) : Nat → Int32 → Int32 → Int32 → Int64 → Int32 → Int32 → Int32 → St → Option (Int32 × St)
  | 0, _, _, _, _, _, _, _, _ => none
  | n + 1, x2, x3, x4, x5, x7, x8, x9, σ => bd (f_X6_locks σ) (fun r76 σ76 => (if r76 ≤ x9 then bd (f_X6_goRun 0 x3 x4 0 σ76) (fun r130 σ130 => rc60 x2 x3 x4 x5 (x7 + r130) (x8 + 1) σ130) else gd (x9 < 0 ∨ 8 ≤ x9.toNatClampNeg) ((f_X6_drawn_73 rc60 n) x2 x3 x4 (((x5 * 1103515245) + 12345) - ((x5 * 1103515245) + 12345) / 2147483648 * 2147483648) x7 x8 (x9 + 1) (pA σ76 80 x9.toNatClampNeg ((((((x5 * 1103515245) + 12345) - ((x5 * 1103515245) + 12345) / 2147483648 * 2147483648) / 65536) - ((((x5 * 1103515245) + 12345) - ((x5 * 1103515245) + 12345) / 2147483648 * 2147483648) / 65536) / 2 * 2).toInt32)))))
def f_X6_drawn_60 : Nat → Int32 → Int32 → Int32 → Int64 → Int32 → Int32 → St → Option (Int32 × St)
  | 0, _, _, _, _, _, _, _ => none
  | n + 1, x2, x3, x4, x5, x7, x8, σ => (if x2 ≤ x8 then bv (f_X6_tell x7 x2 σ) (fun σ146 => some (1, σ146)) else bv (f_X6_layHand σ) (fun σ67 => f_X6_drawn_73 (f_X6_drawn_60 n) FU x2 x3 x4 x5 x7 x8 0 σ67))
def f_X6_drawn (x1 : Int32) (x2 : Int32) (x3 : Int32) (x4 : Int32) (σ : St) : Option (Int32 × St) :=
  bd (f_X6_in x1.toInt64 0 999999 σ) (fun r6 σ6 => (if r6 = 0 then bd (f_X6_bad (-2) σ6) (fun r37 σ37 => some (r37, σ37)) else bd (f_X6_in x2.toInt64 0 30 σ6) (fun r18 σ18 => (if r18 = 0 then bd (f_X6_bad (-2) σ18) (fun r37 σ37 => some (r37, σ37)) else bd (f_X6_isRun 0 x3 x4 σ18) (fun r28 σ28 => (if r28 = 0 then bd (f_X6_bad (-2) σ28) (fun r37 σ37 => some (r37, σ37)) else (if x2 = 0 then bd (f_X6_no σ28) (fun r46 σ46 => some (r46, σ46)) else f_X6_drawn_60 FU x2 x3 x4 x1.toInt64 0 0 σ28)))))))
set_option maxHeartbeats 4000000 in
set_option maxRecDepth 100000 in
theorem w_X6_drawn_73 {p : Program} {l : Launch} {e : Env} {s : State} {m : MethodId} {args : Array Value} {below : List Frame} {meth : Method} {c : Code} {G : GG} (C : Cx p s m args meth c cX6_drawn RX6 wsX6_drawn (some .int) 10 G) {res : Int32 × St} {rc60 : Int32 → Int32 → Int32 → Int64 → Int32 → Int32 → St → Option (Int32 × St)} (hrc60 : ∀ (x2 : Int32) (x3 : Int32) (x4 : Int32) (x5 : Int64) (x7 : Int32) (x8 : Int32) (σ : St), rc60 x2 x3 x4 x5 x7 x8 σ = some res → WC p l e 3 s m args below meth c G (QI G res) 10 60 [(0, .ref (G.2.1 75)), (2, .int x2), (3, .int x3), (4, .int x4), (5, .long x5), (7, .int x7), (8, .int x8)] [] σ) : ∀ (n : Nat) (x2 : Int32) (x3 : Int32) (x4 : Int32) (x5 : Int64) (x7 : Int32) (x8 : Int32) (x9 : Int32) (σ : St), f_X6_drawn_73 rc60 n x2 x3 x4 x5 x7 x8 x9 σ = some res → WC p l e 3 s m args below meth c G (QI G res) 10 73 [(0, .ref (G.2.1 75)), (2, .int x2), (3, .int x3), (4, .int x4), (5, .long x5), (7, .int x7), (8, .int x8), (9, .int x9)] [] σ := by
  have hx := C.1
  have hb := C.2.1
  have inX6 : ∀ w ∈ u_ws RX6 TX6 22, w ∈ wsX6_drawn := fun w h => List.mem_cons_of_mem _ (List.mem_append_right _ h)
  intro n
  induction n with
  | zero => intro x2 x3 x4 x5 x7 x8 x9 σ hf; cases hf
  | succ n hrc73 =>
    intro x2 x3 x4 x5 x7 x8 x9 σ hf _ _ _ hR hS hl
    unfold f_X6_drawn_73 at hf
    refine lv_iload hx hb dX6_drawn_73 (lv_at hl 7 rfl) ?_
    refine lv_aload_n hx hb dX6_drawn_75 rfl (lv_at hl 0 rfl) ?_
    obtain ⟨r76_, σ76_, hc_76, hf⟩ := bd_some hf
    refine x_cvI C hl.1 hR hS (c_X6_locks l G σ _ hc_76) gX6_drawn_X6_locks rfl hdV_X6_locks ⟨Nat.le_of_ble_eq_true rfl, Nat.le_of_ble_eq_true rfl⟩ (by decide) (cz5 rfl) rfl rfl (As := []) (rest := [.int x9]) rfl (Nat.le_of_ble_eq_true rfl) ⟨Nat.le_of_ble_eq_true rfl, Nat.le_of_ble_eq_true rfl⟩ dX6_drawn_76 (fun r76 σ76 H locs hq_76 hR hS => ?_)
    obtain ⟨rfl, rfl⟩ := hq_76
    refine lv_icmp_ge (tgt := 122) hx hb dX6_drawn_79 (by decide) (fun c_79 => ?_) (fun c_79 => ?_)
    · replace hf := (if_pos c_79).symm.trans hf
      refine lv_iload hx hb dX6_drawn_122 (lv_at hl 5 rfl) ?_
      refine lv_aload_n hx hb dX6_drawn_124 rfl (lv_at hl 0 rfl) ?_
      refine lv_iconst (v := 0) hx hb dX6_drawn_125 (by decide) ?_
      refine lv_iload_n hx hb dX6_drawn_126 rfl (lv_at hl 2 rfl) ?_
      refine lv_iload hx hb dX6_drawn_127 (lv_at hl 3 rfl) ?_
      refine lv_iconst (v := 0) hx hb dX6_drawn_129 (by decide) ?_
      obtain ⟨r130_, σ130_, hc_130, hf⟩ := bd_some hf
      refine x_cvI C hl.1 hR hS (c_X6_goRun l G 0 x3 x4 0 σ76 _ hc_130) gX6_drawn_X6_goRun rfl hdV_X6_goRun ⟨Nat.le_of_ble_eq_true rfl, Nat.le_of_ble_eq_true rfl⟩ (by decide) (cz5 rfl) rfl rfl (As := [.int 0, .int x3, .int x4, .int 0]) (rest := [.int x7]) rfl (Nat.le_of_ble_eq_true rfl) ⟨Nat.le_of_ble_eq_true rfl, Nat.le_of_ble_eq_true rfl⟩ dX6_drawn_130 (fun r130 σ130 H locs hq_130 hR hS => ?_)
      obtain ⟨rfl, rfl⟩ := hq_130
      refine lv_iadd hx hb dX6_drawn_133 ?_
      refine lv_istore (lv' := [(7, .int (x7 + r130)), (0, .ref (G.2.1 75)), (2, .int x2), (3, .int x3), (4, .int x4), (5, .long x5), (8, .int x8), (9, .int x9)]) hx hb dX6_drawn_134 hl (by decide) rfl (fun ls hl => ?_)
      refine lv_iinc (v := x8 + 1) (lv' := [(8, .int (x8 + 1)), (7, .int (x7 + r130)), (0, .ref (G.2.1 75)), (2, .int x2), (3, .int x3), (4, .int x4), (5, .long x5), (9, .int x9)]) hx hb dX6_drawn_136 hl (k := 6) rfl rfl (by decide) rfl (fun ls hl => ?_)
      refine lv_goto (tgt := 60) hx hb dX6_drawn_139 (by decide) ?_
      exact hrc60 x2 x3 x4 x5 (x7 + r130) (x8 + 1) _ hf _ _ _ hR hS (lv_sub hl [2, 3, 4, 5, 6, 1, 0] rfl)
    · replace hf := (if_neg c_79).symm.trans hf
      refine lv_lload hx hb dX6_drawn_82 (lv_at hl 4 rfl) ?_
      refine lv_ldc2 (v := 1103515245) hx hb C.2.2.2.2.1 (C.2.2.2.2.2.1 _ (List.mem_of_getElem? (i := 3) rfl)) dX6_drawn_84 ?_
      refine lv_lmul hx hb dX6_drawn_87 ?_
      refine lv_ldc2 (v := 12345) hx hb C.2.2.2.2.1 (C.2.2.2.2.2.1 _ (List.mem_of_getElem? (i := 4) rfl)) dX6_drawn_88 ?_
      refine lv_ladd hx hb dX6_drawn_91 ?_
      refine lv_ldc2 (v := 2147483648) hx hb C.2.2.2.2.1 (C.2.2.2.2.2.1 _ (List.mem_of_getElem? (i := 5) rfl)) dX6_drawn_92 ?_
      refine lv_lrem hx hb dX6_drawn_95 (by decide) ?_
      refine lv_lstore (lv' := [(5, .long (((x5 * 1103515245) + 12345) - ((x5 * 1103515245) + 12345) / 2147483648 * 2147483648)), (0, .ref (G.2.1 75)), (2, .int x2), (3, .int x3), (4, .int x4), (7, .int x7), (8, .int x8), (9, .int x9)]) hx hb dX6_drawn_96 hl (by decide) rfl (fun ls hl => ?_)
      refine lv_aload_n hx hb dX6_drawn_98 rfl (lv_at hl 1 rfl) ?_
      refine x_get C hR inX6 75 (by decide) (cz5 rfl) rfl 6 (by decide) 6 rfl (.ref (G.2.1 80)) rfl dX6_drawn_99 ?_
      refine lv_iload hx hb dX6_drawn_102 (lv_at hl 7 rfl) ?_
      refine lv_lload hx hb dX6_drawn_104 (lv_at hl 0 rfl) ?_
      refine lv_ldc2 (v := 65536) hx hb C.2.2.2.2.1 (C.2.2.2.2.2.1 _ (List.mem_of_getElem? (i := 7) rfl)) dX6_drawn_106 ?_
      refine lv_ldiv hx hb dX6_drawn_109 (by decide) ?_
      refine lv_ldc2 (v := 2) hx hb C.2.2.2.2.1 (C.2.2.2.2.2.1 _ (List.mem_of_getElem? (i := 8) rfl)) dX6_drawn_110 ?_
      refine lv_lrem hx hb dX6_drawn_113 (by decide) ?_
      refine lv_l2i (v := (((((x5 * 1103515245) + 12345) - ((x5 * 1103515245) + 12345) / 2147483648 * 2147483648) / 65536) - ((((x5 * 1103515245) + 12345) - ((x5 * 1103515245) + 12345) / 2147483648 * 2147483648) / 65536) / 2 * 2).toInt32) hx hb dX6_drawn_114 rfl ?_
      obtain ⟨z_115, hf⟩ := gd_some hf
      refine x_iast C hR hS 80 rfl z_115 (n := x9.toNatClampNeg) rfl dX6_drawn_115 (fun H locs hR hS => ?_)
      refine lv_iinc (v := x9 + 1) (lv' := [(9, .int (x9 + 1)), (5, .long (((x5 * 1103515245) + 12345) - ((x5 * 1103515245) + 12345) / 2147483648 * 2147483648)), (0, .ref (G.2.1 75)), (2, .int x2), (3, .int x3), (4, .int x4), (7, .int x7), (8, .int x8)]) hx hb dX6_drawn_116 hl (k := 7) rfl rfl (by decide) rfl (fun ls hl => ?_)
      refine lv_goto (tgt := 73) hx hb dX6_drawn_119 (by decide) ?_
      exact hrc73 x2 x3 x4 (((x5 * 1103515245) + 12345) - ((x5 * 1103515245) + 12345) / 2147483648 * 2147483648) x7 x8 (x9 + 1) _ hf _ _ _ hR hS (lv_sub hl [2, 3, 4, 5, 1, 6, 7, 0] rfl)
set_option maxHeartbeats 4000000 in
set_option maxRecDepth 100000 in
theorem w_X6_drawn_60 {p : Program} {l : Launch} {e : Env} {s : State} {m : MethodId} {args : Array Value} {below : List Frame} {meth : Method} {c : Code} {G : GG} (C : Cx p s m args meth c cX6_drawn RX6 wsX6_drawn (some .int) 10 G) {res : Int32 × St} : ∀ (n : Nat) (x2 : Int32) (x3 : Int32) (x4 : Int32) (x5 : Int64) (x7 : Int32) (x8 : Int32) (σ : St), f_X6_drawn_60 n x2 x3 x4 x5 x7 x8 σ = some res → WC p l e 3 s m args below meth c G (QI G res) 10 60 [(0, .ref (G.2.1 75)), (2, .int x2), (3, .int x3), (4, .int x4), (5, .long x5), (7, .int x7), (8, .int x8)] [] σ := by
  have hx := C.1
  have hb := C.2.1
  have inX6 : ∀ w ∈ u_ws RX6 TX6 22, w ∈ wsX6_drawn := fun w h => List.mem_cons_of_mem _ (List.mem_append_right _ h)
  intro n
  induction n with
  | zero => intro x2 x3 x4 x5 x7 x8 σ hf; cases hf
  | succ n hrc60 =>
    intro x2 x3 x4 x5 x7 x8 σ hf _ _ _ hR hS hl
    unfold f_X6_drawn_60 at hf
    refine lv_iload hx hb dX6_drawn_60 (lv_at hl 6 rfl) ?_
    refine lv_iload_n hx hb dX6_drawn_62 rfl (lv_at hl 1 rfl) ?_
    refine lv_icmp_ge (tgt := 142) hx hb dX6_drawn_63 (by decide) (fun c_63 => ?_) (fun c_63 => ?_)
    · replace hf := (if_pos c_63).symm.trans hf
      refine lv_aload_n hx hb dX6_drawn_142 rfl (lv_at hl 0 rfl) ?_
      refine lv_iload hx hb dX6_drawn_143 (lv_at hl 5 rfl) ?_
      refine lv_iload_n hx hb dX6_drawn_145 rfl (lv_at hl 1 rfl) ?_
      obtain ⟨σ146_, hc_146, hf⟩ := bv_some hf
      refine x_cvV C hl.1 hR hS (c_X6_tell l G x7 x2 σ _ hc_146) gX6_drawn_X6_tell rfl hdV_X6_tell ⟨Nat.le_of_ble_eq_true rfl, Nat.le_of_ble_eq_true rfl⟩ (by decide) (cz5 rfl) rfl rfl (As := [.int x7, .int x2]) (rest := []) rfl (Nat.le_of_ble_eq_true rfl) ⟨Nat.le_of_ble_eq_true rfl, Nat.le_of_ble_eq_true rfl⟩ dX6_drawn_146 (fun σ146 H locs hq_146 hR hS => ?_)
      subst hq_146
      refine lv_iconst (v := 1) hx hb dX6_drawn_149 (by decide) ?_
      obtain rfl := Option.some.inj hf
      exact x_iret C hR hS dX6_drawn_150 ⟨rfl, rfl⟩
    · replace hf := (if_neg c_63).symm.trans hf
      refine lv_aload_n hx hb dX6_drawn_66 rfl (lv_at hl 0 rfl) ?_
      obtain ⟨σ67_, hc_67, hf⟩ := bv_some hf
      refine x_cvV C hl.1 hR hS (c_X6_layHand l G σ _ hc_67) gX6_drawn_X6_layHand rfl hdV_X6_layHand ⟨Nat.le_of_ble_eq_true rfl, Nat.le_of_ble_eq_true rfl⟩ (by decide) (cz5 rfl) rfl rfl (As := []) (rest := []) rfl (Nat.le_of_ble_eq_true rfl) ⟨Nat.le_of_ble_eq_true rfl, Nat.le_of_ble_eq_true rfl⟩ dX6_drawn_67 (fun σ67 H locs hq_67 hR hS => ?_)
      subst hq_67
      refine lv_iconst (v := 0) hx hb dX6_drawn_70 (by decide) ?_
      refine lv_istore (lv' := [(9, .int 0), (0, .ref (G.2.1 75)), (2, .int x2), (3, .int x3), (4, .int x4), (5, .long x5), (7, .int x7), (8, .int x8)]) hx hb dX6_drawn_71 hl (by decide) rfl (fun ls hl => ?_)
      exact w_X6_drawn_73 C hrc60 FU x2 x3 x4 x5 x7 x8 0 _ hf _ _ _ hR hS (lv_sub hl [1, 2, 3, 4, 5, 6, 7, 0] rfl)
set_option maxHeartbeats 4000000 in
set_option maxRecDepth 100000 in
theorem c_X6_drawn (l : Launch) (G : GG) (x1 : Int32) (x2 : Int32) (x3 : Int32) (x4 : Int32) (σ : St) (res : Int32 × St) (hf : f_X6_drawn x1 x2 x3 x4 σ = some res) : CI l yX6_drawn wsX6_drawn 3 [.ref (G.2.1 75), .int x1, .int x2, .int x3, .int x4] G σ (fun r u => r = res.1 ∧ u = res.2) := by
  refine x_ent (ret := (some .int)) cX6_drawn 10 (by decide) rfl (Nat.le_of_ble_eq_true rfl) ?_
  intro p e s m below meth c ls C hR hS hl
  have C : Cx p s m [.ref (G.2.1 75), .int x1, .int x2, .int x3, .int x4].toArray meth c cX6_drawn RX6 wsX6_drawn (some .int) 10 G := C
  have hx := C.1
  have hb := C.2.1
  have hl : lv_has ls 10 [(0, .ref (G.2.1 75)), (1, .int x1), (2, .int x2), (3, .int x3), (4, .int x4)] := hl
  have inX6 : ∀ w ∈ u_ws RX6 TX6 22, w ∈ wsX6_drawn := fun w h => List.mem_cons_of_mem _ (List.mem_append_right _ h)
  unfold f_X6_drawn at hf
  refine lv_iload_n hx hb dX6_drawn_0 rfl (lv_at hl 1 rfl) ?_
  refine lv_i2l (v := x1.toInt64) hx hb dX6_drawn_1 rfl ?_
  refine lv_lconst (v := 0) hx hb dX6_drawn_2 (by decide) ?_
  refine lv_ldc2 (v := 999999) hx hb C.2.2.2.2.1 (C.2.2.2.2.2.1 _ (List.mem_of_getElem? (i := 1) rfl)) dX6_drawn_3 ?_
  obtain ⟨r6_, σ6_, hc_6, hf⟩ := bd_some hf
  refine x_csI C hl.1 hR hS (c_X6_in l G x1.toInt64 0 999999 σ _ hc_6) gX6_drawn_X6_in rfl hdS_X6_in ⟨Nat.le_of_ble_eq_true rfl, Nat.le_of_ble_eq_true rfl⟩ rfl (As := [.long x1.toInt64, .long 0, .long 999999]) (rest := []) rfl (Nat.le_of_ble_eq_true rfl) ⟨Nat.le_of_ble_eq_true rfl, Nat.le_of_ble_eq_true rfl⟩ dX6_drawn_6 (fun r6 σ6 H locs hq_6 hR hS => ?_)
  obtain ⟨rfl, rfl⟩ := hq_6
  refine lv_if_eq (tgt := 34) hx hb dX6_drawn_9 (by decide) (fun c_9 => ?_) (fun c_9 => ?_)
  · replace hf := (if_pos c_9).symm.trans hf
    refine lv_aload_n hx hb dX6_drawn_34 rfl (lv_at hl 0 rfl) ?_
    refine lv_bipush (v := (-2)) hx hb dX6_drawn_35 (by decide) ?_
    obtain ⟨r37_, σ37_, hc_37, hf⟩ := bd_some hf
    refine x_cvI C hl.1 hR hS (c_X6_bad l G (-2) σ6 _ hc_37) gX6_drawn_X6_bad rfl hdV_X6_bad ⟨Nat.le_of_ble_eq_true rfl, Nat.le_of_ble_eq_true rfl⟩ (by decide) (cz5 rfl) rfl rfl (As := [.int (-2)]) (rest := []) rfl (Nat.le_of_ble_eq_true rfl) ⟨Nat.le_of_ble_eq_true rfl, Nat.le_of_ble_eq_true rfl⟩ dX6_drawn_37 (fun r37 σ37 H locs hq_37 hR hS => ?_)
    obtain ⟨rfl, rfl⟩ := hq_37
    obtain rfl := Option.some.inj hf
    exact x_iret C hR hS dX6_drawn_40 ⟨rfl, rfl⟩
  · replace hf := (if_neg c_9).symm.trans hf
    refine lv_iload_n hx hb dX6_drawn_12 rfl (lv_at hl 2 rfl) ?_
    refine lv_i2l (v := x2.toInt64) hx hb dX6_drawn_13 rfl ?_
    refine lv_lconst (v := 0) hx hb dX6_drawn_14 (by decide) ?_
    refine lv_ldc2 (v := 30) hx hb C.2.2.2.2.1 (C.2.2.2.2.2.1 _ (List.mem_of_getElem? (i := 2) rfl)) dX6_drawn_15 ?_
    obtain ⟨r18_, σ18_, hc_18, hf⟩ := bd_some hf
    refine x_csI C hl.1 hR hS (c_X6_in l G x2.toInt64 0 30 σ6 _ hc_18) gX6_drawn_X6_in rfl hdS_X6_in ⟨Nat.le_of_ble_eq_true rfl, Nat.le_of_ble_eq_true rfl⟩ rfl (As := [.long x2.toInt64, .long 0, .long 30]) (rest := []) rfl (Nat.le_of_ble_eq_true rfl) ⟨Nat.le_of_ble_eq_true rfl, Nat.le_of_ble_eq_true rfl⟩ dX6_drawn_18 (fun r18 σ18 H locs hq_18 hR hS => ?_)
    obtain ⟨rfl, rfl⟩ := hq_18
    refine lv_if_eq (tgt := 34) hx hb dX6_drawn_21 (by decide) (fun c_21 => ?_) (fun c_21 => ?_)
    · replace hf := (if_pos c_21).symm.trans hf
      refine lv_aload_n hx hb dX6_drawn_34 rfl (lv_at hl 0 rfl) ?_
      refine lv_bipush (v := (-2)) hx hb dX6_drawn_35 (by decide) ?_
      obtain ⟨r37_, σ37_, hc_37, hf⟩ := bd_some hf
      refine x_cvI C hl.1 hR hS (c_X6_bad l G (-2) σ18 _ hc_37) gX6_drawn_X6_bad rfl hdV_X6_bad ⟨Nat.le_of_ble_eq_true rfl, Nat.le_of_ble_eq_true rfl⟩ (by decide) (cz5 rfl) rfl rfl (As := [.int (-2)]) (rest := []) rfl (Nat.le_of_ble_eq_true rfl) ⟨Nat.le_of_ble_eq_true rfl, Nat.le_of_ble_eq_true rfl⟩ dX6_drawn_37 (fun r37 σ37 H locs hq_37 hR hS => ?_)
      obtain ⟨rfl, rfl⟩ := hq_37
      obtain rfl := Option.some.inj hf
      exact x_iret C hR hS dX6_drawn_40 ⟨rfl, rfl⟩
    · replace hf := (if_neg c_21).symm.trans hf
      refine lv_iconst (v := 0) hx hb dX6_drawn_24 (by decide) ?_
      refine lv_iload_n hx hb dX6_drawn_25 rfl (lv_at hl 3 rfl) ?_
      refine lv_iload hx hb dX6_drawn_26 (lv_at hl 4 rfl) ?_
      obtain ⟨r28_, σ28_, hc_28, hf⟩ := bd_some hf
      refine x_csI C hl.1 hR hS (c_X6_isRun l G 0 x3 x4 σ18 _ hc_28) gX6_drawn_X6_isRun rfl hdS_X6_isRun ⟨Nat.le_of_ble_eq_true rfl, Nat.le_of_ble_eq_true rfl⟩ rfl (As := [.int 0, .int x3, .int x4]) (rest := []) rfl (Nat.le_of_ble_eq_true rfl) ⟨Nat.le_of_ble_eq_true rfl, Nat.le_of_ble_eq_true rfl⟩ dX6_drawn_28 (fun r28 σ28 H locs hq_28 hR hS => ?_)
      obtain ⟨rfl, rfl⟩ := hq_28
      refine lv_if_ne (tgt := 41) hx hb dX6_drawn_31 (by decide) (fun c_31 => ?_) (fun c_31 => ?_)
      · replace hf := (if_neg c_31).symm.trans hf
        refine lv_iload_n hx hb dX6_drawn_41 rfl (lv_at hl 2 rfl) ?_
        refine lv_if_ne (tgt := 50) hx hb dX6_drawn_42 (by decide) (fun c_42 => ?_) (fun c_42 => ?_)
        · replace hf := (if_neg c_42).symm.trans hf
          refine lv_iload_n hx hb dX6_drawn_50 rfl (lv_at hl 1 rfl) ?_
          refine lv_i2l (v := x1.toInt64) hx hb dX6_drawn_51 rfl ?_
          refine lv_lstore (lv' := [(5, .long x1.toInt64), (0, .ref (G.2.1 75)), (1, .int x1), (2, .int x2), (3, .int x3), (4, .int x4)]) hx hb dX6_drawn_52 hl (by decide) rfl (fun ls hl => ?_)
          refine lv_iconst (v := 0) hx hb dX6_drawn_54 (by decide) ?_
          refine lv_istore (lv' := [(7, .int 0), (5, .long x1.toInt64), (0, .ref (G.2.1 75)), (1, .int x1), (2, .int x2), (3, .int x3), (4, .int x4)]) hx hb dX6_drawn_55 hl (by decide) rfl (fun ls hl => ?_)
          refine lv_iconst (v := 0) hx hb dX6_drawn_57 (by decide) ?_
          refine lv_istore (lv' := [(8, .int 0), (7, .int 0), (5, .long x1.toInt64), (0, .ref (G.2.1 75)), (1, .int x1), (2, .int x2), (3, .int x3), (4, .int x4)]) hx hb dX6_drawn_58 hl (by decide) rfl (fun ls hl => ?_)
          exact w_X6_drawn_60 C  FU x2 x3 x4 x1.toInt64 0 0 _ hf _ _ _ hR hS (lv_sub hl [3, 5, 6, 7, 2, 1, 0] rfl)
        · replace hf := (if_pos c_42).symm.trans hf
          refine lv_aload_n hx hb dX6_drawn_45 rfl (lv_at hl 0 rfl) ?_
          obtain ⟨r46_, σ46_, hc_46, hf⟩ := bd_some hf
          refine x_cvI C hl.1 hR hS (c_X6_no l G σ28 _ hc_46) gX6_drawn_X6_no rfl hdV_X6_no ⟨Nat.le_of_ble_eq_true rfl, Nat.le_of_ble_eq_true rfl⟩ (by decide) (cz5 rfl) rfl rfl (As := []) (rest := []) rfl (Nat.le_of_ble_eq_true rfl) ⟨Nat.le_of_ble_eq_true rfl, Nat.le_of_ble_eq_true rfl⟩ dX6_drawn_46 (fun r46 σ46 H locs hq_46 hR hS => ?_)
          obtain ⟨rfl, rfl⟩ := hq_46
          obtain rfl := Option.some.inj hf
          exact x_iret C hR hS dX6_drawn_49 ⟨rfl, rfl⟩
      · replace hf := (if_pos c_31).symm.trans hf
        refine lv_aload_n hx hb dX6_drawn_34 rfl (lv_at hl 0 rfl) ?_
        refine lv_bipush (v := (-2)) hx hb dX6_drawn_35 (by decide) ?_
        obtain ⟨r37_, σ37_, hc_37, hf⟩ := bd_some hf
        refine x_cvI C hl.1 hR hS (c_X6_bad l G (-2) σ28 _ hc_37) gX6_drawn_X6_bad rfl hdV_X6_bad ⟨Nat.le_of_ble_eq_true rfl, Nat.le_of_ble_eq_true rfl⟩ (by decide) (cz5 rfl) rfl rfl (As := [.int (-2)]) (rest := []) rfl (Nat.le_of_ble_eq_true rfl) ⟨Nat.le_of_ble_eq_true rfl, Nat.le_of_ble_eq_true rfl⟩ dX6_drawn_37 (fun r37 σ37 H locs hq_37 hR hS => ?_)
        obtain ⟨rfl, rfl⟩ := hq_37
        obtain rfl := Option.some.inj hf
        exact x_iret C hR hS dX6_drawn_40 ⟨rfl, rfl⟩
theorem hdV_X6_type : yX6_type.cls = RX6 ∧ yX6_type.cls ≠ "java/lang/invoke/MethodHandle" ∧ yX6_type.cls ≠ "java/lang/invoke/VarHandle" ∧ (parseMethodDescriptor yX6_type.desc).map (fun d => d.parameters.length) = some 1 := by decide +kernel
def f_X6_type (x1 : Int32) (σ : St) : Option (Int32 × St) :=
  bd (f_X6_in x1.toInt64 0 127 σ) (fun r6 σ6 => (if r6 = 0 then bd (f_X6_bad (-2) σ6) (fun r15 σ15 => some (r15, σ15)) else (if (sI σ6 75 15) = 150 then bd (f_X6_full σ6) (fun r30 σ30 => some (r30, σ30)) else gd ((sI σ6 75 15) < 0 ∨ 150 ≤ (sI σ6 75 15).toNatClampNeg) (some ((sI σ6 75 15) + 1, (pI (pA σ6 86 ((sI σ6 75 15).toNatClampNeg) x1) 75 15 ((sI σ6 75 15) + 1)))))))
set_option maxHeartbeats 4000000 in
set_option maxRecDepth 100000 in
theorem c_X6_type (l : Launch) (G : GG) (x1 : Int32) (σ : St) (res : Int32 × St) (hf : f_X6_type x1 σ = some res) : CI l yX6_type wsX6_type 1 [.ref (G.2.1 75), .int x1] G σ (fun r u => r = res.1 ∧ u = res.2) := by
  refine x_ent (ret := (some .int)) cX6_type 2 (by decide) rfl (Nat.le_of_ble_eq_true rfl) ?_
  intro p e s m below meth c ls C hR hS hl
  have C : Cx p s m [.ref (G.2.1 75), .int x1].toArray meth c cX6_type RX6 wsX6_type (some .int) 2 G := C
  have hx := C.1
  have hb := C.2.1
  have hl : lv_has ls 2 [(0, .ref (G.2.1 75)), (1, .int x1)] := hl
  have inX6 : ∀ w ∈ u_ws RX6 TX6 22, w ∈ wsX6_type := fun w h => List.mem_cons_of_mem _ (List.mem_append_right _ h)
  unfold f_X6_type at hf
  refine lv_iload_n hx hb dX6_type_0 rfl (lv_at hl 1 rfl) ?_
  refine lv_i2l (v := x1.toInt64) hx hb dX6_type_1 rfl ?_
  refine lv_lconst (v := 0) hx hb dX6_type_2 (by decide) ?_
  refine lv_ldc2 (v := 127) hx hb C.2.2.2.2.1 (C.2.2.2.2.2.1 _ (List.mem_of_getElem? (i := 1) rfl)) dX6_type_3 ?_
  obtain ⟨r6_, σ6_, hc_6, hf⟩ := bd_some hf
  refine x_csI C hl.1 hR hS (c_X6_in l G x1.toInt64 0 127 σ _ hc_6) gX6_type_X6_in rfl hdS_X6_in ⟨Nat.le_of_ble_eq_true rfl, Nat.le_of_ble_eq_true rfl⟩ rfl (As := [.long x1.toInt64, .long 0, .long 127]) (rest := []) rfl (Nat.le_of_ble_eq_true rfl) ⟨Nat.le_of_ble_eq_true rfl, Nat.le_of_ble_eq_true rfl⟩ dX6_type_6 (fun r6 σ6 H locs hq_6 hR hS => ?_)
  obtain ⟨rfl, rfl⟩ := hq_6
  refine lv_if_ne (tgt := 19) hx hb dX6_type_9 (by decide) (fun c_9 => ?_) (fun c_9 => ?_)
  · replace hf := (if_neg c_9).symm.trans hf
    refine lv_aload_n hx hb dX6_type_19 rfl (lv_at hl 0 rfl) ?_
    refine x_get C hR inX6 75 (by decide) (cz5 rfl) rfl 15 (by decide) 2 rfl (.int (sI σ6 75 15)) rfl dX6_type_20 ?_
    refine lv_sipush (v := 150) hx hb dX6_type_23 (by decide) ?_
    refine lv_icmp_ne (tgt := 34) hx hb dX6_type_26 (by decide) (fun c_26 => ?_) (fun c_26 => ?_)
    · replace hf := (if_neg c_26).symm.trans hf
      refine lv_aload_n hx hb dX6_type_34 rfl (lv_at hl 0 rfl) ?_
      refine x_get C hR inX6 75 (by decide) (cz5 rfl) rfl 14 (by decide) 3 rfl (.ref (G.2.1 86)) rfl dX6_type_35 ?_
      refine lv_aload_n hx hb dX6_type_38 rfl (lv_at hl 0 rfl) ?_
      refine x_get C hR inX6 75 (by decide) (cz5 rfl) rfl 15 (by decide) 2 rfl (.int (sI σ6 75 15)) rfl dX6_type_39 ?_
      refine lv_iload_n hx hb dX6_type_42 rfl (lv_at hl 1 rfl) ?_
      obtain ⟨z_43, hf⟩ := gd_some hf
      refine x_iast C hR hS 86 rfl z_43 (n := (sI σ6 75 15).toNatClampNeg) rfl dX6_type_43 (fun H locs hR hS => ?_)
      refine lv_aload_n hx hb dX6_type_44 rfl (lv_at hl 0 rfl) ?_
      refine lv_dup hx hb dX6_type_45 rfl ?_
      refine x_get C hR inX6 75 (by decide) (cz5 rfl) rfl 15 (by decide) 2 rfl (.int (sI σ6 75 15)) rfl dX6_type_46 ?_
      refine lv_iconst (v := 1) hx hb dX6_type_49 (by decide) ?_
      refine lv_iadd hx hb dX6_type_50 ?_
      refine x_put (τ := (pI (pA σ6 86 ((sI σ6 75 15).toNatClampNeg) x1) 75 15 ((sI σ6 75 15) + 1))) C hR hS inX6 tyX6 tyX6_ok nmX6 75 (by decide) (cz5 rfl) rfl 15 (by decide) (pfI5_15 rfl) pI_o 2 rfl rfl rfl rfl (Nat.le_of_ble_eq_true rfl) dX6_type_51 (fun H locs hR hS => ?_)
      refine lv_aload_n hx hb dX6_type_54 rfl (lv_at hl 0 rfl) ?_
      refine x_get C hR inX6 75 (by decide) (cz5 rfl) rfl 15 (by decide) 2 rfl (.int ((sI σ6 75 15) + 1)) rfl dX6_type_55 ?_
      obtain rfl := Option.some.inj hf
      exact x_iret C hR hS dX6_type_58 ⟨rfl, rfl⟩
    · replace hf := (if_pos c_26).symm.trans hf
      refine lv_aload_n hx hb dX6_type_29 rfl (lv_at hl 0 rfl) ?_
      obtain ⟨r30_, σ30_, hc_30, hf⟩ := bd_some hf
      refine x_cvI C hl.1 hR hS (c_X6_full l G σ6 _ hc_30) gX6_type_X6_full rfl hdV_X6_full ⟨Nat.le_of_ble_eq_true rfl, Nat.le_of_ble_eq_true rfl⟩ (by decide) (cz5 rfl) rfl rfl (As := []) (rest := []) rfl (Nat.le_of_ble_eq_true rfl) ⟨Nat.le_of_ble_eq_true rfl, Nat.le_of_ble_eq_true rfl⟩ dX6_type_30 (fun r30 σ30 H locs hq_30 hR hS => ?_)
      obtain ⟨rfl, rfl⟩ := hq_30
      obtain rfl := Option.some.inj hf
      exact x_iret C hR hS dX6_type_33 ⟨rfl, rfl⟩
  · replace hf := (if_pos c_9).symm.trans hf
    refine lv_aload_n hx hb dX6_type_12 rfl (lv_at hl 0 rfl) ?_
    refine lv_bipush (v := (-2)) hx hb dX6_type_13 (by decide) ?_
    obtain ⟨r15_, σ15_, hc_15, hf⟩ := bd_some hf
    refine x_cvI C hl.1 hR hS (c_X6_bad l G (-2) σ6 _ hc_15) gX6_type_X6_bad rfl hdV_X6_bad ⟨Nat.le_of_ble_eq_true rfl, Nat.le_of_ble_eq_true rfl⟩ (by decide) (cz5 rfl) rfl rfl (As := [.int (-2)]) (rest := []) rfl (Nat.le_of_ble_eq_true rfl) ⟨Nat.le_of_ble_eq_true rfl, Nat.le_of_ble_eq_true rfl⟩ dX6_type_15 (fun r15 σ15 H locs hq_15 hR hS => ?_)
    obtain ⟨rfl, rfl⟩ := hq_15
    obtain rfl := Option.some.inj hf
    exact x_iret C hR hS dX6_type_18 ⟨rfl, rfl⟩
theorem hdV_X6_clear : yX6_clear.cls = RX6 ∧ yX6_clear.cls ≠ "java/lang/invoke/MethodHandle" ∧ yX6_clear.cls ≠ "java/lang/invoke/VarHandle" ∧ (parseMethodDescriptor yX6_clear.desc).map (fun d => d.parameters.length) = some 0 := by decide +kernel
def f_X6_clear (σ : St) : Option (Int32 × St) :=
  some (sI σ 75 15, (pI σ 75 15 0))
set_option maxHeartbeats 4000000 in
set_option maxRecDepth 100000 in
theorem c_X6_clear (l : Launch) (G : GG) (σ : St) (res : Int32 × St) (hf : f_X6_clear σ = some res) : CI l yX6_clear wsX6_clear 0 [.ref (G.2.1 75)] G σ (fun r u => r = res.1 ∧ u = res.2) := by
  refine x_ent (ret := (some .int)) cX6_clear 2 (by decide) rfl (Nat.le_of_ble_eq_true rfl) ?_
  intro p e s m below meth c ls C hR hS hl
  have C : Cx p s m [.ref (G.2.1 75)].toArray meth c cX6_clear RX6 wsX6_clear (some .int) 2 G := C
  have hx := C.1
  have hb := C.2.1
  have hl : lv_has ls 2 [(0, .ref (G.2.1 75))] := hl
  have inX6 : ∀ w ∈ u_ws RX6 TX6 22, w ∈ wsX6_clear := fun w h => List.mem_cons_of_mem _ (List.mem_append_right _ h)
  unfold f_X6_clear at hf
  refine lv_aload_n hx hb dX6_clear_0 rfl (lv_at hl 0 rfl) ?_
  refine x_get C hR inX6 75 (by decide) (cz5 rfl) rfl 15 (by decide) 1 rfl (.int (sI σ 75 15)) rfl dX6_clear_1 ?_
  refine lv_istore_n (lv' := [(1, .int (sI σ 75 15)), (0, .ref (G.2.1 75))]) hx hb dX6_clear_4 rfl hl (by decide) rfl (fun ls hl => ?_)
  refine lv_aload_n hx hb dX6_clear_5 rfl (lv_at hl 1 rfl) ?_
  refine lv_iconst (v := 0) hx hb dX6_clear_6 (by decide) ?_
  refine x_put (τ := (pI σ 75 15 0)) C hR hS inX6 tyX6 tyX6_ok nmX6 75 (by decide) (cz5 rfl) rfl 15 (by decide) (pfI5_15 rfl) pI_o 1 rfl rfl rfl rfl (Nat.le_of_ble_eq_true rfl) dX6_clear_7 (fun H locs hR hS => ?_)
  refine lv_iload_n hx hb dX6_clear_10 rfl (lv_at hl 0 rfl) ?_
  obtain rfl := Option.some.inj hf
  exact x_iret C hR hS dX6_clear_11 ⟨rfl, rfl⟩
theorem hdS_X6_isSmall : yX6_isSmall.cls ≠ "java/lang/invoke/MethodHandle" ∧ yX6_isSmall.cls ≠ "java/lang/invoke/VarHandle" ∧ (parseMethodDescriptor yX6_isSmall.desc).map (fun d => d.parameters.length) = some 1 := by decide +kernel
def f_X6_isSmall (x0 : Int32) (σ : St) : Option (Int32 × St) :=
  bd (f_X6_in x0.toInt64 97 122 σ) (fun r8 σ8 => gb r8 (some (r8, σ8)))
set_option maxHeartbeats 4000000 in
set_option maxRecDepth 100000 in
theorem c_X6_isSmall (l : Launch) (G : GG) (x0 : Int32) (σ : St) (res : Int32 × St) (hf : f_X6_isSmall x0 σ = some res) : CI l yX6_isSmall wsX6_isSmall 1 [.int x0] G σ (fun r u => r = res.1 ∧ u = res.2) := by
  refine x_ent (ret := (some .boolean)) cX6_isSmall 1 (by decide) rfl (Nat.le_of_ble_eq_true rfl) ?_
  intro p e s m below meth c ls C hR hS hl
  have C : Cx p s m [.int x0].toArray meth c cX6_isSmall RX6 wsX6_isSmall (some .boolean) 1 G := C
  have hx := C.1
  have hb := C.2.1
  have hl : lv_has ls 1 [(0, .int x0)] := hl
  unfold f_X6_isSmall at hf
  refine lv_iload_n hx hb dX6_isSmall_0 rfl (lv_at hl 0 rfl) ?_
  refine lv_i2l (v := x0.toInt64) hx hb dX6_isSmall_1 rfl ?_
  refine lv_ldc2 (v := 97) hx hb C.2.2.2.2.1 (C.2.2.2.2.2.1 _ (List.mem_of_getElem? (i := 1) rfl)) dX6_isSmall_2 ?_
  refine lv_ldc2 (v := 122) hx hb C.2.2.2.2.1 (C.2.2.2.2.2.1 _ (List.mem_of_getElem? (i := 2) rfl)) dX6_isSmall_5 ?_
  obtain ⟨r8_, σ8_, hc_8, hf⟩ := bd_some hf
  refine x_csI C hl.1 hR hS (c_X6_in l G x0.toInt64 97 122 σ _ hc_8) gX6_isSmall_X6_in rfl hdS_X6_in ⟨Nat.le_of_ble_eq_true rfl, Nat.le_of_ble_eq_true rfl⟩ rfl (As := [.long x0.toInt64, .long 97, .long 122]) (rest := []) rfl (Nat.le_of_ble_eq_true rfl) ⟨Nat.le_of_ble_eq_true rfl, Nat.le_of_ble_eq_true rfl⟩ dX6_isSmall_8 (fun r8 σ8 H locs hq_8 hR hS => ?_)
  obtain ⟨rfl, rfl⟩ := hq_8
  obtain ⟨z_11, hf⟩ := gb_some hf
  obtain rfl := Option.some.inj hf
  exact x_zret C hR hS dX6_isSmall_11 z_11 ⟨rfl, rfl⟩
theorem hdS_X6_isFigure : yX6_isFigure.cls ≠ "java/lang/invoke/MethodHandle" ∧ yX6_isFigure.cls ≠ "java/lang/invoke/VarHandle" ∧ (parseMethodDescriptor yX6_isFigure.desc).map (fun d => d.parameters.length) = some 1 := by decide +kernel
def f_X6_isFigure (x0 : Int32) (σ : St) : Option (Int32 × St) :=
  bd (f_X6_in x0.toInt64 48 57 σ) (fun r8 σ8 => gb r8 (some (r8, σ8)))
set_option maxHeartbeats 4000000 in
set_option maxRecDepth 100000 in
theorem c_X6_isFigure (l : Launch) (G : GG) (x0 : Int32) (σ : St) (res : Int32 × St) (hf : f_X6_isFigure x0 σ = some res) : CI l yX6_isFigure wsX6_isFigure 1 [.int x0] G σ (fun r u => r = res.1 ∧ u = res.2) := by
  refine x_ent (ret := (some .boolean)) cX6_isFigure 1 (by decide) rfl (Nat.le_of_ble_eq_true rfl) ?_
  intro p e s m below meth c ls C hR hS hl
  have C : Cx p s m [.int x0].toArray meth c cX6_isFigure RX6 wsX6_isFigure (some .boolean) 1 G := C
  have hx := C.1
  have hb := C.2.1
  have hl : lv_has ls 1 [(0, .int x0)] := hl
  unfold f_X6_isFigure at hf
  refine lv_iload_n hx hb dX6_isFigure_0 rfl (lv_at hl 0 rfl) ?_
  refine lv_i2l (v := x0.toInt64) hx hb dX6_isFigure_1 rfl ?_
  refine lv_ldc2 (v := 48) hx hb C.2.2.2.2.1 (C.2.2.2.2.2.1 _ (List.mem_of_getElem? (i := 1) rfl)) dX6_isFigure_2 ?_
  refine lv_ldc2 (v := 57) hx hb C.2.2.2.2.1 (C.2.2.2.2.2.1 _ (List.mem_of_getElem? (i := 2) rfl)) dX6_isFigure_5 ?_
  obtain ⟨r8_, σ8_, hc_8, hf⟩ := bd_some hf
  refine x_csI C hl.1 hR hS (c_X6_in l G x0.toInt64 48 57 σ _ hc_8) gX6_isFigure_X6_in rfl hdS_X6_in ⟨Nat.le_of_ble_eq_true rfl, Nat.le_of_ble_eq_true rfl⟩ rfl (As := [.long x0.toInt64, .long 48, .long 57]) (rest := []) rfl (Nat.le_of_ble_eq_true rfl) ⟨Nat.le_of_ble_eq_true rfl, Nat.le_of_ble_eq_true rfl⟩ dX6_isFigure_8 (fun r8 σ8 H locs hq_8 hR hS => ?_)
  obtain ⟨rfl, rfl⟩ := hq_8
  obtain ⟨z_11, hf⟩ := gb_some hf
  obtain rfl := Option.some.inj hf
  exact x_zret C hR hS dX6_isFigure_11 z_11 ⟨rfl, rfl⟩
theorem hdV_X6_lookAt : yX6_lookAt.cls = RX6 ∧ yX6_lookAt.cls ≠ "java/lang/invoke/MethodHandle" ∧ yX6_lookAt.cls ≠ "java/lang/invoke/VarHandle" ∧ (parseMethodDescriptor yX6_lookAt.desc).map (fun d => d.parameters.length) = some 1 := by decide +kernel
def f_X6_lookAt_274 (σ : St) : Option (St) :=
  (if (sI σ 75 18) = 2 then (if (sI σ 75 17) ≤ 2 then some (pI σ 75 18 (sI σ 75 18)) else some (pI σ 75 18 4)) else some (pI σ 75 18 (sI σ 75 18)))
def f_X6_lookAt_218 : Nat → Int32 → St → Option (St)
  | 0, _, _ => none
  | n + 1, x4, σ => (if (sI σ 75 17) ≤ x4 then f_X6_lookAt_274 σ else (if 2 ≤ x4 then f_X6_lookAt_274 σ else (if (sI σ 75 18) = 2 then gd (((sI σ 75 16) + x4) < 0 ∨ 150 ≤ ((sI σ 75 16) + x4).toNatClampNeg) ((f_X6_lookAt_218 n) (x4 + 1) (pI σ 75 19 (((10 * (sI σ 75 19)) + (sA σ 86 (((sI σ 75 16) + x4).toNatClampNeg))) - 48))) else f_X6_lookAt_274 σ)))
def f_X6_lookAt_215 (σ : St) : Option (St) :=
  f_X6_lookAt_218 FU 0 σ
def f_X6_lookAt_208 (rc136 : Int32 → St → Option (St)) (x3 : Int32) (t0 : Int32) (t1 : Int32) (σ : St) : Option (St) :=
  rc136 x3 (pI σ 75 17 (t1 + t0))
def f_X6_lookAt_193 (rc136 : Int32 → St → Option (St)) (t0 : Int32) (σ : St) : Option (St) :=
  (if t0 = 0 then f_X6_lookAt_208 rc136 t0 0 (sI σ 75 17) σ else f_X6_lookAt_208 rc136 t0 1 (sI σ 75 17) σ)
def f_X6_lookAt_136 : Nat → Int32 → St → Option (St)
  | 0, _, _ => none
  | n + 1, x3, σ => (if x3 = 0 then f_X6_lookAt_215 σ else (if (sI σ 75 15) ≤ ((sI σ 75 16) + (sI σ 75 17)) then f_X6_lookAt_215 σ else gd (((sI σ 75 16) + (sI σ 75 17)) < 0 ∨ 150 ≤ ((sI σ 75 16) + (sI σ 75 17)).toNatClampNeg) ((if (sI σ 75 18) = 1 then bd (f_X6_isSmall (sA σ 86 (((sI σ 75 16) + (sI σ 75 17)).toNatClampNeg)) σ) (fun r182 σ182 => f_X6_lookAt_193 (f_X6_lookAt_136 n) r182 σ182) else bd (f_X6_isFigure (sA σ 86 (((sI σ 75 16) + (sI σ 75 17)).toNatClampNeg)) σ) (fun r190 σ190 => f_X6_lookAt_193 (f_X6_lookAt_136 n) r190 σ190)))))
def f_X6_lookAt_135 (t0 : Int32) (σ : St) : Option (St) :=
  f_X6_lookAt_136 FU t0 σ
def f_X6_lookAt_114 (t0 : Int32) (σ : St) : Option (St) :=
  (if 3 ≤ t0 then f_X6_lookAt_135 0 (pI (pI σ 75 18 t0) 75 17 1) else f_X6_lookAt_135 1 (pI (pI σ 75 18 t0) 75 17 1))
def f_X6_lookAt_43 (σ : St) : Option (St) :=
  (if (sI σ 75 16) = (sI σ 75 15) then some (pI (pI (pI σ 75 17 0) 75 18 0) 75 19 0) else gd ((sI σ 75 16) < 0 ∨ 150 ≤ (sI σ 75 16).toNatClampNeg) (bd (f_X6_isSmall (sA σ 86 ((sI σ 75 16).toNatClampNeg)) (pI (pI (pI σ 75 17 0) 75 18 0) 75 19 0)) (fun r82 σ82 => (if r82 = 0 then bd (f_X6_isFigure (sA σ 86 ((sI σ 75 16).toNatClampNeg)) σ82) (fun r93 σ93 => (if r93 = 0 then (if (sA σ 86 ((sI σ 75 16).toNatClampNeg)) = 59 then f_X6_lookAt_114 3 σ93 else f_X6_lookAt_114 4 σ93) else f_X6_lookAt_114 2 σ93)) else f_X6_lookAt_114 1 σ82))))
def f_X6_lookAt_5 : Nat → St → Option (St)
  | 0, _ => none
  | n + 1, σ => (if (sI σ 75 15) ≤ (sI σ 75 16) then f_X6_lookAt_43 σ else gd ((sI σ 75 16) < 0 ∨ 150 ≤ (sI σ 75 16).toNatClampNeg) ((if (sA σ 86 ((sI σ 75 16).toNatClampNeg)) = 32 then (f_X6_lookAt_5 n) (pI σ 75 16 ((sI σ 75 16) + 1)) else f_X6_lookAt_43 σ)))
def f_X6_lookAt (x1 : Int32) (σ : St) : Option (St) :=
  f_X6_lookAt_5 FU (pI σ 75 16 x1)
set_option maxHeartbeats 4000000 in
set_option maxRecDepth 100000 in
theorem w_X6_lookAt_274 {p : Program} {l : Launch} {e : Env} {s : State} {m : MethodId} {args : Array Value} {below : List Frame} {meth : Method} {c : Code} {G : GG} (C : Cx p s m args meth c cX6_lookAt RX6 wsX6_lookAt none 5 G) {res : St} : ∀ (σ : St), f_X6_lookAt_274  σ = some res → WC p l e 2 s m args below meth c G (QV G res) 5 274 [(0, .ref (G.2.1 75))] [] σ := by
  have hx := C.1
  have hb := C.2.1
  have inX6 : ∀ w ∈ u_ws RX6 TX6 22, w ∈ wsX6_lookAt := fun w h => List.mem_cons_of_mem _ (List.mem_append_right _ h)
  intro  σ hf _ _ _ hR hS hl
  unfold f_X6_lookAt_274 at hf
  refine lv_aload_n hx hb dX6_lookAt_274 rfl (lv_at hl 0 rfl) ?_
  refine lv_aload_n hx hb dX6_lookAt_275 rfl (lv_at hl 0 rfl) ?_
  refine x_get C hR inX6 75 (by decide) (cz5 rfl) rfl 18 (by decide) 5 rfl (.int (sI σ 75 18)) rfl dX6_lookAt_276 ?_
  refine lv_iconst (v := 2) hx hb dX6_lookAt_279 (by decide) ?_
  refine lv_icmp_ne (tgt := 295) hx hb dX6_lookAt_280 (by decide) (fun c_280 => ?_) (fun c_280 => ?_)
  · replace hf := (if_neg c_280).symm.trans hf
    refine lv_aload_n hx hb dX6_lookAt_295 rfl (lv_at hl 0 rfl) ?_
    refine x_get C hR inX6 75 (by decide) (cz5 rfl) rfl 18 (by decide) 5 rfl (.int (sI σ 75 18)) rfl dX6_lookAt_296 ?_
    refine x_put (τ := (pI σ 75 18 (sI σ 75 18))) C hR hS inX6 tyX6 tyX6_ok nmX6 75 (by decide) (cz5 rfl) rfl 18 (by decide) (pfI5_18 rfl) pI_o 5 rfl rfl rfl rfl (Nat.le_of_ble_eq_true rfl) dX6_lookAt_299 (fun H locs hR hS => ?_)
    obtain rfl := Option.some.inj hf
    exact x_vret C hR hS dX6_lookAt_302 rfl
  · replace hf := (if_pos c_280).symm.trans hf
    refine lv_aload_n hx hb dX6_lookAt_283 rfl (lv_at hl 0 rfl) ?_
    refine x_get C hR inX6 75 (by decide) (cz5 rfl) rfl 17 (by decide) 4 rfl (.int (sI σ 75 17)) rfl dX6_lookAt_284 ?_
    refine lv_iconst (v := 2) hx hb dX6_lookAt_287 (by decide) ?_
    refine lv_icmp_le (tgt := 295) hx hb dX6_lookAt_288 (by decide) (fun c_288 => ?_) (fun c_288 => ?_)
    · replace hf := (if_pos c_288).symm.trans hf
      refine lv_aload_n hx hb dX6_lookAt_295 rfl (lv_at hl 0 rfl) ?_
      refine x_get C hR inX6 75 (by decide) (cz5 rfl) rfl 18 (by decide) 5 rfl (.int (sI σ 75 18)) rfl dX6_lookAt_296 ?_
      refine x_put (τ := (pI σ 75 18 (sI σ 75 18))) C hR hS inX6 tyX6 tyX6_ok nmX6 75 (by decide) (cz5 rfl) rfl 18 (by decide) (pfI5_18 rfl) pI_o 5 rfl rfl rfl rfl (Nat.le_of_ble_eq_true rfl) dX6_lookAt_299 (fun H locs hR hS => ?_)
      obtain rfl := Option.some.inj hf
      exact x_vret C hR hS dX6_lookAt_302 rfl
    · replace hf := (if_neg c_288).symm.trans hf
      refine lv_iconst (v := 4) hx hb dX6_lookAt_291 (by decide) ?_
      refine lv_goto (tgt := 299) hx hb dX6_lookAt_292 (by decide) ?_
      refine x_put (τ := (pI σ 75 18 4)) C hR hS inX6 tyX6 tyX6_ok nmX6 75 (by decide) (cz5 rfl) rfl 18 (by decide) (pfI5_18 rfl) pI_o 5 rfl rfl rfl rfl (Nat.le_of_ble_eq_true rfl) dX6_lookAt_299 (fun H locs hR hS => ?_)
      obtain rfl := Option.some.inj hf
      exact x_vret C hR hS dX6_lookAt_302 rfl
set_option maxHeartbeats 4000000 in
set_option maxRecDepth 100000 in
theorem w_X6_lookAt_218 {p : Program} {l : Launch} {e : Env} {s : State} {m : MethodId} {args : Array Value} {below : List Frame} {meth : Method} {c : Code} {G : GG} (C : Cx p s m args meth c cX6_lookAt RX6 wsX6_lookAt none 5 G) {res : St} : ∀ (n : Nat) (x4 : Int32) (σ : St), f_X6_lookAt_218 n x4 σ = some res → WC p l e 2 s m args below meth c G (QV G res) 5 218 [(0, .ref (G.2.1 75)), (4, .int x4)] [] σ := by
  have hx := C.1
  have hb := C.2.1
  have inX6 : ∀ w ∈ u_ws RX6 TX6 22, w ∈ wsX6_lookAt := fun w h => List.mem_cons_of_mem _ (List.mem_append_right _ h)
  intro n
  induction n with
  | zero => intro x4 σ hf; cases hf
  | succ n hrc218 =>
    intro x4 σ hf _ _ _ hR hS hl
    unfold f_X6_lookAt_218 at hf
    refine lv_iload hx hb dX6_lookAt_218 (lv_at hl 1 rfl) ?_
    refine lv_aload_n hx hb dX6_lookAt_220 rfl (lv_at hl 0 rfl) ?_
    refine x_get C hR inX6 75 (by decide) (cz5 rfl) rfl 17 (by decide) 4 rfl (.int (sI σ 75 17)) rfl dX6_lookAt_221 ?_
    refine lv_icmp_ge (tgt := 274) hx hb dX6_lookAt_224 (by decide) (fun c_224 => ?_) (fun c_224 => ?_)
    · replace hf := (if_pos c_224).symm.trans hf
      exact w_X6_lookAt_274 C  _ hf _ _ _ hR hS (lv_sub hl [0] rfl)
    · replace hf := (if_neg c_224).symm.trans hf
      refine lv_iload hx hb dX6_lookAt_227 (lv_at hl 1 rfl) ?_
      refine lv_iconst (v := 2) hx hb dX6_lookAt_229 (by decide) ?_
      refine lv_icmp_ge (tgt := 274) hx hb dX6_lookAt_230 (by decide) (fun c_230 => ?_) (fun c_230 => ?_)
      · replace hf := (if_pos c_230).symm.trans hf
        exact w_X6_lookAt_274 C  _ hf _ _ _ hR hS (lv_sub hl [0] rfl)
      · replace hf := (if_neg c_230).symm.trans hf
        refine lv_aload_n hx hb dX6_lookAt_233 rfl (lv_at hl 0 rfl) ?_
        refine x_get C hR inX6 75 (by decide) (cz5 rfl) rfl 18 (by decide) 5 rfl (.int (sI σ 75 18)) rfl dX6_lookAt_234 ?_
        refine lv_iconst (v := 2) hx hb dX6_lookAt_237 (by decide) ?_
        refine lv_icmp_ne (tgt := 274) hx hb dX6_lookAt_238 (by decide) (fun c_238 => ?_) (fun c_238 => ?_)
        · replace hf := (if_neg c_238).symm.trans hf
          exact w_X6_lookAt_274 C  _ hf _ _ _ hR hS (lv_sub hl [0] rfl)
        · replace hf := (if_pos c_238).symm.trans hf
          refine lv_aload_n hx hb dX6_lookAt_241 rfl (lv_at hl 0 rfl) ?_
          refine lv_bipush (v := 10) hx hb dX6_lookAt_242 (by decide) ?_
          refine lv_aload_n hx hb dX6_lookAt_244 rfl (lv_at hl 0 rfl) ?_
          refine x_get C hR inX6 75 (by decide) (cz5 rfl) rfl 19 (by decide) 6 rfl (.int (sI σ 75 19)) rfl dX6_lookAt_245 ?_
          refine lv_imul hx hb dX6_lookAt_248 ?_
          refine lv_aload_n hx hb dX6_lookAt_249 rfl (lv_at hl 0 rfl) ?_
          refine x_get C hR inX6 75 (by decide) (cz5 rfl) rfl 14 (by decide) 3 rfl (.ref (G.2.1 86)) rfl dX6_lookAt_250 ?_
          refine lv_aload_n hx hb dX6_lookAt_253 rfl (lv_at hl 0 rfl) ?_
          refine x_get C hR inX6 75 (by decide) (cz5 rfl) rfl 16 (by decide) 1 rfl (.int (sI σ 75 16)) rfl dX6_lookAt_254 ?_
          refine lv_iload hx hb dX6_lookAt_257 (lv_at hl 1 rfl) ?_
          refine lv_iadd hx hb dX6_lookAt_259 ?_
          obtain ⟨z_260, hf⟩ := gd_some hf
          refine x_iald C hR 86 rfl z_260 (n := ((sI σ 75 16) + x4).toNatClampNeg) rfl (sA σ 86 (((sI σ 75 16) + x4).toNatClampNeg)) rfl dX6_lookAt_260 ?_
          refine lv_iadd hx hb dX6_lookAt_261 ?_
          refine lv_bipush (v := 48) hx hb dX6_lookAt_262 (by decide) ?_
          refine lv_isub hx hb dX6_lookAt_264 ?_
          refine x_put (τ := (pI σ 75 19 (((10 * (sI σ 75 19)) + (sA σ 86 (((sI σ 75 16) + x4).toNatClampNeg))) - 48))) C hR hS inX6 tyX6 tyX6_ok nmX6 75 (by decide) (cz5 rfl) rfl 19 (by decide) (pfI5_19 rfl) pI_o 6 rfl rfl rfl rfl (Nat.le_of_ble_eq_true rfl) dX6_lookAt_265 (fun H locs hR hS => ?_)
          refine lv_iinc (v := x4 + 1) (lv' := [(4, .int (x4 + 1)), (0, .ref (G.2.1 75))]) hx hb dX6_lookAt_268 hl (k := 1) rfl rfl (by decide) rfl (fun ls hl => ?_)
          refine lv_goto (tgt := 218) hx hb dX6_lookAt_271 (by decide) ?_
          exact hrc218 (x4 + 1) _ hf _ _ _ hR hS (lv_sub hl [1, 0] rfl)
set_option maxHeartbeats 4000000 in
set_option maxRecDepth 100000 in
theorem w_X6_lookAt_215 {p : Program} {l : Launch} {e : Env} {s : State} {m : MethodId} {args : Array Value} {below : List Frame} {meth : Method} {c : Code} {G : GG} (C : Cx p s m args meth c cX6_lookAt RX6 wsX6_lookAt none 5 G) {res : St} : ∀ (σ : St), f_X6_lookAt_215  σ = some res → WC p l e 2 s m args below meth c G (QV G res) 5 215 [(0, .ref (G.2.1 75))] [] σ := by
  have hx := C.1
  have hb := C.2.1
  have inX6 : ∀ w ∈ u_ws RX6 TX6 22, w ∈ wsX6_lookAt := fun w h => List.mem_cons_of_mem _ (List.mem_append_right _ h)
  intro  σ hf _ _ _ hR hS hl
  unfold f_X6_lookAt_215 at hf
  refine lv_iconst (v := 0) hx hb dX6_lookAt_215 (by decide) ?_
  refine lv_istore (lv' := [(4, .int 0), (0, .ref (G.2.1 75))]) hx hb dX6_lookAt_216 hl (by decide) rfl (fun ls hl => ?_)
  exact w_X6_lookAt_218 C  FU 0 _ hf _ _ _ hR hS (lv_sub hl [1, 0] rfl)
set_option maxHeartbeats 4000000 in
set_option maxRecDepth 100000 in
theorem w_X6_lookAt_208 {p : Program} {l : Launch} {e : Env} {s : State} {m : MethodId} {args : Array Value} {below : List Frame} {meth : Method} {c : Code} {G : GG} (C : Cx p s m args meth c cX6_lookAt RX6 wsX6_lookAt none 5 G) {res : St} {rc136 : Int32 → St → Option (St)} (hrc136 : ∀ (x3 : Int32) (σ : St), rc136 x3 σ = some res → WC p l e 2 s m args below meth c G (QV G res) 5 136 [(0, .ref (G.2.1 75)), (3, .int x3)] [] σ) : ∀ (x3 : Int32) (t0 : Int32) (t1 : Int32) (σ : St), f_X6_lookAt_208 rc136 x3 t0 t1 σ = some res → WC p l e 2 s m args below meth c G (QV G res) 5 208 [(0, .ref (G.2.1 75)), (3, .int x3)] [.int t0, .int t1, .ref (G.2.1 75)] σ := by
  have hx := C.1
  have hb := C.2.1
  have inX6 : ∀ w ∈ u_ws RX6 TX6 22, w ∈ wsX6_lookAt := fun w h => List.mem_cons_of_mem _ (List.mem_append_right _ h)
  intro x3 t0 t1 σ hf _ _ _ hR hS hl
  unfold f_X6_lookAt_208 at hf
  refine lv_iadd hx hb dX6_lookAt_208 ?_
  refine x_put (τ := (pI σ 75 17 (t1 + t0))) C hR hS inX6 tyX6 tyX6_ok nmX6 75 (by decide) (cz5 rfl) rfl 17 (by decide) (pfI5_17 rfl) pI_o 4 rfl rfl rfl rfl (Nat.le_of_ble_eq_true rfl) dX6_lookAt_209 (fun H locs hR hS => ?_)
  refine lv_goto (tgt := 136) hx hb dX6_lookAt_212 (by decide) ?_
  exact hrc136 x3 _ hf _ _ _ hR hS (lv_sub hl [0, 1] rfl)
set_option maxHeartbeats 4000000 in
set_option maxRecDepth 100000 in
theorem w_X6_lookAt_193 {p : Program} {l : Launch} {e : Env} {s : State} {m : MethodId} {args : Array Value} {below : List Frame} {meth : Method} {c : Code} {G : GG} (C : Cx p s m args meth c cX6_lookAt RX6 wsX6_lookAt none 5 G) {res : St} {rc136 : Int32 → St → Option (St)} (hrc136 : ∀ (x3 : Int32) (σ : St), rc136 x3 σ = some res → WC p l e 2 s m args below meth c G (QV G res) 5 136 [(0, .ref (G.2.1 75)), (3, .int x3)] [] σ) : ∀ (t0 : Int32) (σ : St), f_X6_lookAt_193 rc136 t0 σ = some res → WC p l e 2 s m args below meth c G (QV G res) 5 193 [(0, .ref (G.2.1 75))] [.int t0] σ := by
  have hx := C.1
  have hb := C.2.1
  have inX6 : ∀ w ∈ u_ws RX6 TX6 22, w ∈ wsX6_lookAt := fun w h => List.mem_cons_of_mem _ (List.mem_append_right _ h)
  intro t0 σ hf _ _ _ hR hS hl
  unfold f_X6_lookAt_193 at hf
  refine lv_istore_n (lv' := [(3, .int t0), (0, .ref (G.2.1 75))]) hx hb dX6_lookAt_193 rfl hl (by decide) rfl (fun ls hl => ?_)
  refine lv_aload_n hx hb dX6_lookAt_194 rfl (lv_at hl 1 rfl) ?_
  refine lv_dup hx hb dX6_lookAt_195 rfl ?_
  refine x_get C hR inX6 75 (by decide) (cz5 rfl) rfl 17 (by decide) 4 rfl (.int (sI σ 75 17)) rfl dX6_lookAt_196 ?_
  refine lv_iload_n hx hb dX6_lookAt_199 rfl (lv_at hl 0 rfl) ?_
  refine lv_if_eq (tgt := 207) hx hb dX6_lookAt_200 (by decide) (fun c_200 => ?_) (fun c_200 => ?_)
  · replace hf := (if_pos c_200).symm.trans hf
    refine lv_iconst (v := 0) hx hb dX6_lookAt_207 (by decide) ?_
    exact w_X6_lookAt_208 C hrc136 t0 0 (sI σ 75 17) _ hf _ _ _ hR hS (lv_sub hl [1, 0] rfl)
  · replace hf := (if_neg c_200).symm.trans hf
    refine lv_iconst (v := 1) hx hb dX6_lookAt_203 (by decide) ?_
    refine lv_goto (tgt := 208) hx hb dX6_lookAt_204 (by decide) ?_
    exact w_X6_lookAt_208 C hrc136 t0 1 (sI σ 75 17) _ hf _ _ _ hR hS (lv_sub hl [1, 0] rfl)
set_option maxHeartbeats 4000000 in
set_option maxRecDepth 100000 in
theorem w_X6_lookAt_136 {p : Program} {l : Launch} {e : Env} {s : State} {m : MethodId} {args : Array Value} {below : List Frame} {meth : Method} {c : Code} {G : GG} (C : Cx p s m args meth c cX6_lookAt RX6 wsX6_lookAt none 5 G) {res : St} : ∀ (n : Nat) (x3 : Int32) (σ : St), f_X6_lookAt_136 n x3 σ = some res → WC p l e 2 s m args below meth c G (QV G res) 5 136 [(0, .ref (G.2.1 75)), (3, .int x3)] [] σ := by
  have hx := C.1
  have hb := C.2.1
  have inX6 : ∀ w ∈ u_ws RX6 TX6 22, w ∈ wsX6_lookAt := fun w h => List.mem_cons_of_mem _ (List.mem_append_right _ h)
  intro n
  induction n with
  | zero => intro x3 σ hf; cases hf
  | succ n hrc136 =>
    intro x3 σ hf _ _ _ hR hS hl
    unfold f_X6_lookAt_136 at hf
    refine lv_iload_n hx hb dX6_lookAt_136 rfl (lv_at hl 1 rfl) ?_
    refine lv_if_eq (tgt := 215) hx hb dX6_lookAt_137 (by decide) (fun c_137 => ?_) (fun c_137 => ?_)
    · replace hf := (if_pos c_137).symm.trans hf
      exact w_X6_lookAt_215 C  _ hf _ _ _ hR hS (lv_sub hl [0] rfl)
    · replace hf := (if_neg c_137).symm.trans hf
      refine lv_aload_n hx hb dX6_lookAt_140 rfl (lv_at hl 0 rfl) ?_
      refine x_get C hR inX6 75 (by decide) (cz5 rfl) rfl 16 (by decide) 1 rfl (.int (sI σ 75 16)) rfl dX6_lookAt_141 ?_
      refine lv_aload_n hx hb dX6_lookAt_144 rfl (lv_at hl 0 rfl) ?_
      refine x_get C hR inX6 75 (by decide) (cz5 rfl) rfl 17 (by decide) 4 rfl (.int (sI σ 75 17)) rfl dX6_lookAt_145 ?_
      refine lv_iadd hx hb dX6_lookAt_148 ?_
      refine lv_aload_n hx hb dX6_lookAt_149 rfl (lv_at hl 0 rfl) ?_
      refine x_get C hR inX6 75 (by decide) (cz5 rfl) rfl 15 (by decide) 2 rfl (.int (sI σ 75 15)) rfl dX6_lookAt_150 ?_
      refine lv_icmp_ge (tgt := 215) hx hb dX6_lookAt_153 (by decide) (fun c_153 => ?_) (fun c_153 => ?_)
      · replace hf := (if_pos c_153).symm.trans hf
        exact w_X6_lookAt_215 C  _ hf _ _ _ hR hS (lv_sub hl [0] rfl)
      · replace hf := (if_neg c_153).symm.trans hf
        refine lv_aload_n hx hb dX6_lookAt_156 rfl (lv_at hl 0 rfl) ?_
        refine x_get C hR inX6 75 (by decide) (cz5 rfl) rfl 14 (by decide) 3 rfl (.ref (G.2.1 86)) rfl dX6_lookAt_157 ?_
        refine lv_aload_n hx hb dX6_lookAt_160 rfl (lv_at hl 0 rfl) ?_
        refine x_get C hR inX6 75 (by decide) (cz5 rfl) rfl 16 (by decide) 1 rfl (.int (sI σ 75 16)) rfl dX6_lookAt_161 ?_
        refine lv_aload_n hx hb dX6_lookAt_164 rfl (lv_at hl 0 rfl) ?_
        refine x_get C hR inX6 75 (by decide) (cz5 rfl) rfl 17 (by decide) 4 rfl (.int (sI σ 75 17)) rfl dX6_lookAt_165 ?_
        refine lv_iadd hx hb dX6_lookAt_168 ?_
        obtain ⟨z_169, hf⟩ := gd_some hf
        refine x_iald C hR 86 rfl z_169 (n := ((sI σ 75 16) + (sI σ 75 17)).toNatClampNeg) rfl (sA σ 86 (((sI σ 75 16) + (sI σ 75 17)).toNatClampNeg)) rfl dX6_lookAt_169 ?_
        refine lv_istore (lv' := [(4, .int (sA σ 86 (((sI σ 75 16) + (sI σ 75 17)).toNatClampNeg))), (0, .ref (G.2.1 75)), (3, .int x3)]) hx hb dX6_lookAt_170 hl (by decide) rfl (fun ls hl => ?_)
        refine lv_aload_n hx hb dX6_lookAt_172 rfl (lv_at hl 1 rfl) ?_
        refine x_get C hR inX6 75 (by decide) (cz5 rfl) rfl 18 (by decide) 5 rfl (.int (sI σ 75 18)) rfl dX6_lookAt_173 ?_
        refine lv_iconst (v := 1) hx hb dX6_lookAt_176 (by decide) ?_
        refine lv_icmp_ne (tgt := 188) hx hb dX6_lookAt_177 (by decide) (fun c_177 => ?_) (fun c_177 => ?_)
        · replace hf := (if_neg c_177).symm.trans hf
          refine lv_iload hx hb dX6_lookAt_188 (lv_at hl 0 rfl) ?_
          obtain ⟨r190_, σ190_, hc_190, hf⟩ := bd_some hf
          refine x_csI C hl.1 hR hS (c_X6_isFigure l G (sA σ 86 (((sI σ 75 16) + (sI σ 75 17)).toNatClampNeg)) σ _ hc_190) gX6_lookAt_X6_isFigure rfl hdS_X6_isFigure ⟨Nat.le_of_ble_eq_true rfl, Nat.le_of_ble_eq_true rfl⟩ rfl (As := [.int (sA σ 86 (((sI σ 75 16) + (sI σ 75 17)).toNatClampNeg))]) (rest := []) rfl (Nat.le_of_ble_eq_true rfl) ⟨Nat.le_of_ble_eq_true rfl, Nat.le_of_ble_eq_true rfl⟩ dX6_lookAt_190 (fun r190 σ190 H locs hq_190 hR hS => ?_)
          obtain ⟨rfl, rfl⟩ := hq_190
          exact w_X6_lookAt_193 C hrc136 r190 _ hf _ _ _ hR hS (lv_sub hl [1] rfl)
        · replace hf := (if_pos c_177).symm.trans hf
          refine lv_iload hx hb dX6_lookAt_180 (lv_at hl 0 rfl) ?_
          obtain ⟨r182_, σ182_, hc_182, hf⟩ := bd_some hf
          refine x_csI C hl.1 hR hS (c_X6_isSmall l G (sA σ 86 (((sI σ 75 16) + (sI σ 75 17)).toNatClampNeg)) σ _ hc_182) gX6_lookAt_X6_isSmall rfl hdS_X6_isSmall ⟨Nat.le_of_ble_eq_true rfl, Nat.le_of_ble_eq_true rfl⟩ rfl (As := [.int (sA σ 86 (((sI σ 75 16) + (sI σ 75 17)).toNatClampNeg))]) (rest := []) rfl (Nat.le_of_ble_eq_true rfl) ⟨Nat.le_of_ble_eq_true rfl, Nat.le_of_ble_eq_true rfl⟩ dX6_lookAt_182 (fun r182 σ182 H locs hq_182 hR hS => ?_)
          obtain ⟨rfl, rfl⟩ := hq_182
          refine lv_goto (tgt := 193) hx hb dX6_lookAt_185 (by decide) ?_
          exact w_X6_lookAt_193 C hrc136 r182 _ hf _ _ _ hR hS (lv_sub hl [1] rfl)
set_option maxHeartbeats 4000000 in
set_option maxRecDepth 100000 in
theorem w_X6_lookAt_135 {p : Program} {l : Launch} {e : Env} {s : State} {m : MethodId} {args : Array Value} {below : List Frame} {meth : Method} {c : Code} {G : GG} (C : Cx p s m args meth c cX6_lookAt RX6 wsX6_lookAt none 5 G) {res : St} : ∀ (t0 : Int32) (σ : St), f_X6_lookAt_135 t0 σ = some res → WC p l e 2 s m args below meth c G (QV G res) 5 135 [(0, .ref (G.2.1 75))] [.int t0] σ := by
  have hx := C.1
  have hb := C.2.1
  have inX6 : ∀ w ∈ u_ws RX6 TX6 22, w ∈ wsX6_lookAt := fun w h => List.mem_cons_of_mem _ (List.mem_append_right _ h)
  intro t0 σ hf _ _ _ hR hS hl
  unfold f_X6_lookAt_135 at hf
  refine lv_istore_n (lv' := [(3, .int t0), (0, .ref (G.2.1 75))]) hx hb dX6_lookAt_135 rfl hl (by decide) rfl (fun ls hl => ?_)
  exact w_X6_lookAt_136 C  FU t0 _ hf _ _ _ hR hS (lv_sub hl [1, 0] rfl)
set_option maxHeartbeats 4000000 in
set_option maxRecDepth 100000 in
theorem w_X6_lookAt_114 {p : Program} {l : Launch} {e : Env} {s : State} {m : MethodId} {args : Array Value} {below : List Frame} {meth : Method} {c : Code} {G : GG} (C : Cx p s m args meth c cX6_lookAt RX6 wsX6_lookAt none 5 G) {res : St} : ∀ (t0 : Int32) (σ : St), f_X6_lookAt_114 t0 σ = some res → WC p l e 2 s m args below meth c G (QV G res) 5 114 [(0, .ref (G.2.1 75))] [.int t0, .ref (G.2.1 75)] σ := by
  have hx := C.1
  have hb := C.2.1
  have inX6 : ∀ w ∈ u_ws RX6 TX6 22, w ∈ wsX6_lookAt := fun w h => List.mem_cons_of_mem _ (List.mem_append_right _ h)
  intro t0 σ hf _ _ _ hR hS hl
  unfold f_X6_lookAt_114 at hf
  refine x_put (τ := (pI σ 75 18 t0)) C hR hS inX6 tyX6 tyX6_ok nmX6 75 (by decide) (cz5 rfl) rfl 18 (by decide) (pfI5_18 rfl) pI_o 5 rfl rfl rfl rfl (Nat.le_of_ble_eq_true rfl) dX6_lookAt_114 (fun H locs hR hS => ?_)
  refine lv_aload_n hx hb dX6_lookAt_117 rfl (lv_at hl 0 rfl) ?_
  refine lv_iconst (v := 1) hx hb dX6_lookAt_118 (by decide) ?_
  refine x_put (τ := (pI (pI σ 75 18 t0) 75 17 1)) C hR hS inX6 tyX6 tyX6_ok nmX6 75 (by decide) (cz5 rfl) rfl 17 (by decide) (pfI5_17 rfl) pI_o 4 rfl rfl rfl rfl (Nat.le_of_ble_eq_true rfl) dX6_lookAt_119 (fun H locs hR hS => ?_)
  refine lv_aload_n hx hb dX6_lookAt_122 rfl (lv_at hl 0 rfl) ?_
  refine x_get C hR inX6 75 (by decide) (cz5 rfl) rfl 18 (by decide) 5 rfl (.int t0) rfl dX6_lookAt_123 ?_
  refine lv_iconst (v := 3) hx hb dX6_lookAt_126 (by decide) ?_
  refine lv_icmp_ge (tgt := 134) hx hb dX6_lookAt_127 (by decide) (fun c_127 => ?_) (fun c_127 => ?_)
  · replace hf := (if_pos c_127).symm.trans hf
    refine lv_iconst (v := 0) hx hb dX6_lookAt_134 (by decide) ?_
    exact w_X6_lookAt_135 C  0 _ hf _ _ _ hR hS (lv_sub hl [0] rfl)
  · replace hf := (if_neg c_127).symm.trans hf
    refine lv_iconst (v := 1) hx hb dX6_lookAt_130 (by decide) ?_
    refine lv_goto (tgt := 135) hx hb dX6_lookAt_131 (by decide) ?_
    exact w_X6_lookAt_135 C  1 _ hf _ _ _ hR hS (lv_sub hl [0] rfl)
set_option maxHeartbeats 4000000 in
set_option maxRecDepth 100000 in
theorem w_X6_lookAt_43 {p : Program} {l : Launch} {e : Env} {s : State} {m : MethodId} {args : Array Value} {below : List Frame} {meth : Method} {c : Code} {G : GG} (C : Cx p s m args meth c cX6_lookAt RX6 wsX6_lookAt none 5 G) {res : St} : ∀ (σ : St), f_X6_lookAt_43  σ = some res → WC p l e 2 s m args below meth c G (QV G res) 5 43 [(0, .ref (G.2.1 75))] [] σ := by
  have hx := C.1
  have hb := C.2.1
  have inX6 : ∀ w ∈ u_ws RX6 TX6 22, w ∈ wsX6_lookAt := fun w h => List.mem_cons_of_mem _ (List.mem_append_right _ h)
  intro  σ hf _ _ _ hR hS hl
  unfold f_X6_lookAt_43 at hf
  refine lv_aload_n hx hb dX6_lookAt_43 rfl (lv_at hl 0 rfl) ?_
  refine lv_iconst (v := 0) hx hb dX6_lookAt_44 (by decide) ?_
  refine x_put (τ := (pI σ 75 17 0)) C hR hS inX6 tyX6 tyX6_ok nmX6 75 (by decide) (cz5 rfl) rfl 17 (by decide) (pfI5_17 rfl) pI_o 4 rfl rfl rfl rfl (Nat.le_of_ble_eq_true rfl) dX6_lookAt_45 (fun H locs hR hS => ?_)
  refine lv_aload_n hx hb dX6_lookAt_48 rfl (lv_at hl 0 rfl) ?_
  refine lv_iconst (v := 0) hx hb dX6_lookAt_49 (by decide) ?_
  refine x_put (τ := (pI (pI σ 75 17 0) 75 18 0)) C hR hS inX6 tyX6 tyX6_ok nmX6 75 (by decide) (cz5 rfl) rfl 18 (by decide) (pfI5_18 rfl) pI_o 5 rfl rfl rfl rfl (Nat.le_of_ble_eq_true rfl) dX6_lookAt_50 (fun H locs hR hS => ?_)
  refine lv_aload_n hx hb dX6_lookAt_53 rfl (lv_at hl 0 rfl) ?_
  refine lv_iconst (v := 0) hx hb dX6_lookAt_54 (by decide) ?_
  refine x_put (τ := (pI (pI (pI σ 75 17 0) 75 18 0) 75 19 0)) C hR hS inX6 tyX6 tyX6_ok nmX6 75 (by decide) (cz5 rfl) rfl 19 (by decide) (pfI5_19 rfl) pI_o 6 rfl rfl rfl rfl (Nat.le_of_ble_eq_true rfl) dX6_lookAt_55 (fun H locs hR hS => ?_)
  refine lv_aload_n hx hb dX6_lookAt_58 rfl (lv_at hl 0 rfl) ?_
  refine x_get C hR inX6 75 (by decide) (cz5 rfl) rfl 16 (by decide) 1 rfl (.int (sI σ 75 16)) rfl dX6_lookAt_59 ?_
  refine lv_aload_n hx hb dX6_lookAt_62 rfl (lv_at hl 0 rfl) ?_
  refine x_get C hR inX6 75 (by decide) (cz5 rfl) rfl 15 (by decide) 2 rfl (.int (sI σ 75 15)) rfl dX6_lookAt_63 ?_
  refine lv_icmp_ne (tgt := 70) hx hb dX6_lookAt_66 (by decide) (fun c_66 => ?_) (fun c_66 => ?_)
  · replace hf := (if_neg c_66).symm.trans hf
    refine lv_aload_n hx hb dX6_lookAt_70 rfl (lv_at hl 0 rfl) ?_
    refine x_get C hR inX6 75 (by decide) (cz5 rfl) rfl 14 (by decide) 3 rfl (.ref (G.2.1 86)) rfl dX6_lookAt_71 ?_
    refine lv_aload_n hx hb dX6_lookAt_74 rfl (lv_at hl 0 rfl) ?_
    refine x_get C hR inX6 75 (by decide) (cz5 rfl) rfl 16 (by decide) 1 rfl (.int (sI σ 75 16)) rfl dX6_lookAt_75 ?_
    obtain ⟨z_78, hf⟩ := gd_some hf
    refine x_iald C hR 86 rfl z_78 (n := (sI σ 75 16).toNatClampNeg) rfl (sA σ 86 ((sI σ 75 16).toNatClampNeg)) rfl dX6_lookAt_78 ?_
    refine lv_istore_n (lv' := [(2, .int (sA σ 86 ((sI σ 75 16).toNatClampNeg))), (0, .ref (G.2.1 75))]) hx hb dX6_lookAt_79 rfl hl (by decide) rfl (fun ls hl => ?_)
    refine lv_aload_n hx hb dX6_lookAt_80 rfl (lv_at hl 1 rfl) ?_
    refine lv_iload_n hx hb dX6_lookAt_81 rfl (lv_at hl 0 rfl) ?_
    obtain ⟨r82_, σ82_, hc_82, hf⟩ := bd_some hf
    refine x_csI C hl.1 hR hS (c_X6_isSmall l G (sA σ 86 ((sI σ 75 16).toNatClampNeg)) (pI (pI (pI σ 75 17 0) 75 18 0) 75 19 0) _ hc_82) gX6_lookAt_X6_isSmall rfl hdS_X6_isSmall ⟨Nat.le_of_ble_eq_true rfl, Nat.le_of_ble_eq_true rfl⟩ rfl (As := [.int (sA σ 86 ((sI σ 75 16).toNatClampNeg))]) (rest := [.ref (G.2.1 75)]) rfl (Nat.le_of_ble_eq_true rfl) ⟨Nat.le_of_ble_eq_true rfl, Nat.le_of_ble_eq_true rfl⟩ dX6_lookAt_82 (fun r82 σ82 H locs hq_82 hR hS => ?_)
    obtain ⟨rfl, rfl⟩ := hq_82
    refine lv_if_eq (tgt := 92) hx hb dX6_lookAt_85 (by decide) (fun c_85 => ?_) (fun c_85 => ?_)
    · replace hf := (if_pos c_85).symm.trans hf
      refine lv_iload_n hx hb dX6_lookAt_92 rfl (lv_at hl 0 rfl) ?_
      obtain ⟨r93_, σ93_, hc_93, hf⟩ := bd_some hf
      refine x_csI C hl.1 hR hS (c_X6_isFigure l G (sA σ 86 ((sI σ 75 16).toNatClampNeg)) σ82 _ hc_93) gX6_lookAt_X6_isFigure rfl hdS_X6_isFigure ⟨Nat.le_of_ble_eq_true rfl, Nat.le_of_ble_eq_true rfl⟩ rfl (As := [.int (sA σ 86 ((sI σ 75 16).toNatClampNeg))]) (rest := [.ref (G.2.1 75)]) rfl (Nat.le_of_ble_eq_true rfl) ⟨Nat.le_of_ble_eq_true rfl, Nat.le_of_ble_eq_true rfl⟩ dX6_lookAt_93 (fun r93 σ93 H locs hq_93 hR hS => ?_)
      obtain ⟨rfl, rfl⟩ := hq_93
      refine lv_if_eq (tgt := 103) hx hb dX6_lookAt_96 (by decide) (fun c_96 => ?_) (fun c_96 => ?_)
      · replace hf := (if_pos c_96).symm.trans hf
        refine lv_iload_n hx hb dX6_lookAt_103 rfl (lv_at hl 0 rfl) ?_
        refine lv_bipush (v := 59) hx hb dX6_lookAt_104 (by decide) ?_
        refine lv_icmp_ne (tgt := 113) hx hb dX6_lookAt_106 (by decide) (fun c_106 => ?_) (fun c_106 => ?_)
        · replace hf := (if_neg c_106).symm.trans hf
          refine lv_iconst (v := 4) hx hb dX6_lookAt_113 (by decide) ?_
          exact w_X6_lookAt_114 C  4 _ hf _ _ _ hR hS (lv_sub hl [1] rfl)
        · replace hf := (if_pos c_106).symm.trans hf
          refine lv_iconst (v := 3) hx hb dX6_lookAt_109 (by decide) ?_
          refine lv_goto (tgt := 114) hx hb dX6_lookAt_110 (by decide) ?_
          exact w_X6_lookAt_114 C  3 _ hf _ _ _ hR hS (lv_sub hl [1] rfl)
      · replace hf := (if_neg c_96).symm.trans hf
        refine lv_iconst (v := 2) hx hb dX6_lookAt_99 (by decide) ?_
        refine lv_goto (tgt := 114) hx hb dX6_lookAt_100 (by decide) ?_
        exact w_X6_lookAt_114 C  2 _ hf _ _ _ hR hS (lv_sub hl [1] rfl)
    · replace hf := (if_neg c_85).symm.trans hf
      refine lv_iconst (v := 1) hx hb dX6_lookAt_88 (by decide) ?_
      refine lv_goto (tgt := 114) hx hb dX6_lookAt_89 (by decide) ?_
      exact w_X6_lookAt_114 C  1 _ hf _ _ _ hR hS (lv_sub hl [1] rfl)
  · replace hf := (if_pos c_66).symm.trans hf
    obtain rfl := Option.some.inj hf
    exact x_vret C hR hS dX6_lookAt_69 rfl
set_option maxHeartbeats 4000000 in
set_option maxRecDepth 100000 in
theorem w_X6_lookAt_5 {p : Program} {l : Launch} {e : Env} {s : State} {m : MethodId} {args : Array Value} {below : List Frame} {meth : Method} {c : Code} {G : GG} (C : Cx p s m args meth c cX6_lookAt RX6 wsX6_lookAt none 5 G) {res : St} : ∀ (n : Nat) (σ : St), f_X6_lookAt_5 n  σ = some res → WC p l e 2 s m args below meth c G (QV G res) 5 5 [(0, .ref (G.2.1 75))] [] σ := by
  have hx := C.1
  have hb := C.2.1
  have inX6 : ∀ w ∈ u_ws RX6 TX6 22, w ∈ wsX6_lookAt := fun w h => List.mem_cons_of_mem _ (List.mem_append_right _ h)
  intro n
  induction n with
  | zero => intro  σ hf; cases hf
  | succ n hrc5 =>
    intro  σ hf _ _ _ hR hS hl
    unfold f_X6_lookAt_5 at hf
    refine lv_aload_n hx hb dX6_lookAt_5 rfl (lv_at hl 0 rfl) ?_
    refine x_get C hR inX6 75 (by decide) (cz5 rfl) rfl 16 (by decide) 1 rfl (.int (sI σ 75 16)) rfl dX6_lookAt_6 ?_
    refine lv_aload_n hx hb dX6_lookAt_9 rfl (lv_at hl 0 rfl) ?_
    refine x_get C hR inX6 75 (by decide) (cz5 rfl) rfl 15 (by decide) 2 rfl (.int (sI σ 75 15)) rfl dX6_lookAt_10 ?_
    refine lv_icmp_ge (tgt := 43) hx hb dX6_lookAt_13 (by decide) (fun c_13 => ?_) (fun c_13 => ?_)
    · replace hf := (if_pos c_13).symm.trans hf
      exact w_X6_lookAt_43 C  _ hf _ _ _ hR hS (lv_sub hl [0] rfl)
    · replace hf := (if_neg c_13).symm.trans hf
      refine lv_aload_n hx hb dX6_lookAt_16 rfl (lv_at hl 0 rfl) ?_
      refine x_get C hR inX6 75 (by decide) (cz5 rfl) rfl 14 (by decide) 3 rfl (.ref (G.2.1 86)) rfl dX6_lookAt_17 ?_
      refine lv_aload_n hx hb dX6_lookAt_20 rfl (lv_at hl 0 rfl) ?_
      refine x_get C hR inX6 75 (by decide) (cz5 rfl) rfl 16 (by decide) 1 rfl (.int (sI σ 75 16)) rfl dX6_lookAt_21 ?_
      obtain ⟨z_24, hf⟩ := gd_some hf
      refine x_iald C hR 86 rfl z_24 (n := (sI σ 75 16).toNatClampNeg) rfl (sA σ 86 ((sI σ 75 16).toNatClampNeg)) rfl dX6_lookAt_24 ?_
      refine lv_bipush (v := 32) hx hb dX6_lookAt_25 (by decide) ?_
      refine lv_icmp_ne (tgt := 43) hx hb dX6_lookAt_27 (by decide) (fun c_27 => ?_) (fun c_27 => ?_)
      · replace hf := (if_neg c_27).symm.trans hf
        exact w_X6_lookAt_43 C  _ hf _ _ _ hR hS (lv_sub hl [0] rfl)
      · replace hf := (if_pos c_27).symm.trans hf
        refine lv_aload_n hx hb dX6_lookAt_30 rfl (lv_at hl 0 rfl) ?_
        refine lv_dup hx hb dX6_lookAt_31 rfl ?_
        refine x_get C hR inX6 75 (by decide) (cz5 rfl) rfl 16 (by decide) 1 rfl (.int (sI σ 75 16)) rfl dX6_lookAt_32 ?_
        refine lv_iconst (v := 1) hx hb dX6_lookAt_35 (by decide) ?_
        refine lv_iadd hx hb dX6_lookAt_36 ?_
        refine x_put (τ := (pI σ 75 16 ((sI σ 75 16) + 1))) C hR hS inX6 tyX6 tyX6_ok nmX6 75 (by decide) (cz5 rfl) rfl 16 (by decide) (pfI5_16 rfl) pI_o 1 rfl rfl rfl rfl (Nat.le_of_ble_eq_true rfl) dX6_lookAt_37 (fun H locs hR hS => ?_)
        refine lv_goto (tgt := 5) hx hb dX6_lookAt_40 (by decide) ?_
        exact hrc5 _ hf _ _ _ hR hS (lv_sub hl [0] rfl)
set_option maxHeartbeats 4000000 in
set_option maxRecDepth 100000 in
theorem c_X6_lookAt (l : Launch) (G : GG) (x1 : Int32) (σ : St) (res : St) (hf : f_X6_lookAt x1 σ = some res) : CV l yX6_lookAt wsX6_lookAt 2 [.ref (G.2.1 75), .int x1] G σ (fun u => u = res) := by
  refine x_ent (ret := none) cX6_lookAt 5 (by decide) rfl (Nat.le_of_ble_eq_true rfl) ?_
  intro p e s m below meth c ls C hR hS hl
  have C : Cx p s m [.ref (G.2.1 75), .int x1].toArray meth c cX6_lookAt RX6 wsX6_lookAt none 5 G := C
  have hx := C.1
  have hb := C.2.1
  have hl : lv_has ls 5 [(0, .ref (G.2.1 75)), (1, .int x1)] := hl
  have inX6 : ∀ w ∈ u_ws RX6 TX6 22, w ∈ wsX6_lookAt := fun w h => List.mem_cons_of_mem _ (List.mem_append_right _ h)
  unfold f_X6_lookAt at hf
  refine lv_aload_n hx hb dX6_lookAt_0 rfl (lv_at hl 0 rfl) ?_
  refine lv_iload_n hx hb dX6_lookAt_1 rfl (lv_at hl 1 rfl) ?_
  refine x_put (τ := (pI σ 75 16 x1)) C hR hS inX6 tyX6 tyX6_ok nmX6 75 (by decide) (cz5 rfl) rfl 16 (by decide) (pfI5_16 rfl) pI_o 1 rfl rfl rfl rfl (Nat.le_of_ble_eq_true rfl) dX6_lookAt_2 (fun H locs hR hS => ?_)
  exact w_X6_lookAt_5 C  FU _ hf _ _ _ hR hS (lv_sub hl [0] rfl)
theorem hdV_X6_goOn : yX6_goOn.cls = RX6 ∧ yX6_goOn.cls ≠ "java/lang/invoke/MethodHandle" ∧ yX6_goOn.cls ≠ "java/lang/invoke/VarHandle" ∧ (parseMethodDescriptor yX6_goOn.desc).map (fun d => d.parameters.length) = some 0 := by decide +kernel
def f_X6_goOn (σ : St) : Option (St) :=
  bv (f_X6_lookAt ((sI σ 75 16) + (sI σ 75 17)) σ) (fun σ10 => some σ10)
set_option maxHeartbeats 4000000 in
set_option maxRecDepth 100000 in
theorem c_X6_goOn (l : Launch) (G : GG) (σ : St) (res : St) (hf : f_X6_goOn σ = some res) : CV l yX6_goOn wsX6_goOn 3 [.ref (G.2.1 75)] G σ (fun u => u = res) := by
  refine x_ent (ret := none) cX6_goOn 1 (by decide) rfl (Nat.le_of_ble_eq_true rfl) ?_
  intro p e s m below meth c ls C hR hS hl
  have C : Cx p s m [.ref (G.2.1 75)].toArray meth c cX6_goOn RX6 wsX6_goOn none 1 G := C
  have hx := C.1
  have hb := C.2.1
  have hl : lv_has ls 1 [(0, .ref (G.2.1 75))] := hl
  have inX6 : ∀ w ∈ u_ws RX6 TX6 22, w ∈ wsX6_goOn := fun w h => List.mem_cons_of_mem _ (List.mem_append_right _ h)
  unfold f_X6_goOn at hf
  refine lv_aload_n hx hb dX6_goOn_0 rfl (lv_at hl 0 rfl) ?_
  refine lv_aload_n hx hb dX6_goOn_1 rfl (lv_at hl 0 rfl) ?_
  refine x_get C hR inX6 75 (by decide) (cz5 rfl) rfl 16 (by decide) 1 rfl (.int (sI σ 75 16)) rfl dX6_goOn_2 ?_
  refine lv_aload_n hx hb dX6_goOn_5 rfl (lv_at hl 0 rfl) ?_
  refine x_get C hR inX6 75 (by decide) (cz5 rfl) rfl 17 (by decide) 2 rfl (.int (sI σ 75 17)) rfl dX6_goOn_6 ?_
  refine lv_iadd hx hb dX6_goOn_9 ?_
  obtain ⟨σ10_, hc_10, hf⟩ := bv_some hf
  refine x_cvV C hl.1 hR hS (c_X6_lookAt l G ((sI σ 75 16) + (sI σ 75 17)) σ _ hc_10) gX6_goOn_X6_lookAt rfl hdV_X6_lookAt ⟨Nat.le_of_ble_eq_true rfl, Nat.le_of_ble_eq_true rfl⟩ (by decide) (cz5 rfl) rfl rfl (As := [.int ((sI σ 75 16) + (sI σ 75 17))]) (rest := []) rfl (Nat.le_of_ble_eq_true rfl) ⟨Nat.le_of_ble_eq_true rfl, Nat.le_of_ble_eq_true rfl⟩ dX6_goOn_10 (fun σ10 H locs hq_10 hR hS => ?_)
  subst hq_10
  obtain rfl := Option.some.inj hf
  exact x_vret C hR hS dX6_goOn_13 rfl
theorem hdV_X6_isCalled : yX6_isCalled.cls = RX6 ∧ yX6_isCalled.cls ≠ "java/lang/invoke/MethodHandle" ∧ yX6_isCalled.cls ≠ "java/lang/invoke/VarHandle" ∧ (parseMethodDescriptor yX6_isCalled.desc).map (fun d => d.parameters.length) = some 7 := by decide +kernel
def f_X6_isCalled_111 (rc26 : Int32 → Int32 → Int32 → Int32 → Int32 → Int32 → Int32 → Int32 → Int32 → St → Option (Int32 × St)) (x1 : Int32) (x2 : Int32) (x3 : Int32) (x4 : Int32) (x5 : Int32) (x6 : Int32) (x7 : Int32) (x9 : Int32) (t0 : Int32) (σ : St) : Option (Int32 × St) :=
  rc26 x1 x2 x3 x4 x5 x6 x7 t0 (x9 + 1) σ
def f_X6_isCalled_103 (rc26 : Int32 → Int32 → Int32 → Int32 → Int32 → Int32 → Int32 → Int32 → Int32 → St → Option (Int32 × St)) (x1 : Int32) (x2 : Int32) (x3 : Int32) (x4 : Int32) (x5 : Int32) (x6 : Int32) (x7 : Int32) (x9 : Int32) (t0 : Int32) (t1 : Int32) (σ : St) : Option (Int32 × St) :=
  (if t1 = t0 then f_X6_isCalled_111 rc26 x1 x2 x3 x4 x5 x6 x7 x9 1 σ else f_X6_isCalled_111 rc26 x1 x2 x3 x4 x5 x6 x7 x9 0 σ)
def f_X6_isCalled_26 : Nat → Int32 → Int32 → Int32 → Int32 → Int32 → Int32 → Int32 → Int32 → Int32 → St → Option (Int32 × St)
  | 0, _, _, _, _, _, _, _, _, _, _ => none
  | n + 1, x1, x2, x3, x4, x5, x6, x7, x8, x9, σ => (if x1 ≤ x9 then gb x8 (some (x8, σ)) else (if x8 = 0 then gb x8 (some (x8, σ)) else gd (((sI σ 75 16) + x9) < 0 ∨ 150 ≤ ((sI σ 75 16) + x9).toNatClampNeg) ((if x9 = 0 then f_X6_isCalled_103 (f_X6_isCalled_26 n) x1 x2 x3 x4 x5 x6 x7 x9 x2 (sA σ 86 (((sI σ 75 16) + x9).toNatClampNeg)) σ else (if x9 = 1 then f_X6_isCalled_103 (f_X6_isCalled_26 n) x1 x2 x3 x4 x5 x6 x7 x9 x3 (sA σ 86 (((sI σ 75 16) + x9).toNatClampNeg)) σ else (if x9 = 2 then f_X6_isCalled_103 (f_X6_isCalled_26 n) x1 x2 x3 x4 x5 x6 x7 x9 x4 (sA σ 86 (((sI σ 75 16) + x9).toNatClampNeg)) σ else (if x9 = 3 then f_X6_isCalled_103 (f_X6_isCalled_26 n) x1 x2 x3 x4 x5 x6 x7 x9 x5 (sA σ 86 (((sI σ 75 16) + x9).toNatClampNeg)) σ else (if x9 = 4 then f_X6_isCalled_103 (f_X6_isCalled_26 n) x1 x2 x3 x4 x5 x6 x7 x9 x6 (sA σ 86 (((sI σ 75 16) + x9).toNatClampNeg)) σ else f_X6_isCalled_103 (f_X6_isCalled_26 n) x1 x2 x3 x4 x5 x6 x7 x9 x7 (sA σ 86 (((sI σ 75 16) + x9).toNatClampNeg)) σ))))))))
def f_X6_isCalled_21 (x1 : Int32) (x2 : Int32) (x3 : Int32) (x4 : Int32) (x5 : Int32) (x6 : Int32) (x7 : Int32) (t0 : Int32) (σ : St) : Option (Int32 × St) :=
  f_X6_isCalled_26 FU x1 x2 x3 x4 x5 x6 x7 t0 0 σ
def f_X6_isCalled_20 (x1 : Int32) (x2 : Int32) (x3 : Int32) (x4 : Int32) (x5 : Int32) (x6 : Int32) (x7 : Int32) (σ : St) : Option (Int32 × St) :=
  f_X6_isCalled_21 x1 x2 x3 x4 x5 x6 x7 0 σ
def f_X6_isCalled (x1 : Int32) (x2 : Int32) (x3 : Int32) (x4 : Int32) (x5 : Int32) (x6 : Int32) (x7 : Int32) (σ : St) : Option (Int32 × St) :=
  (if (sI σ 75 18) = 1 then (if (sI σ 75 17) = x1 then f_X6_isCalled_21 x1 x2 x3 x4 x5 x6 x7 1 σ else f_X6_isCalled_20 x1 x2 x3 x4 x5 x6 x7 σ) else f_X6_isCalled_20 x1 x2 x3 x4 x5 x6 x7 σ)
set_option maxHeartbeats 4000000 in
set_option maxRecDepth 100000 in
theorem w_X6_isCalled_111 {p : Program} {l : Launch} {e : Env} {s : State} {m : MethodId} {args : Array Value} {below : List Frame} {meth : Method} {c : Code} {G : GG} (C : Cx p s m args meth c cX6_isCalled RX6 wsX6_isCalled (some .boolean) 10 G) {res : Int32 × St} {rc26 : Int32 → Int32 → Int32 → Int32 → Int32 → Int32 → Int32 → Int32 → Int32 → St → Option (Int32 × St)} (hrc26 : ∀ (x1 : Int32) (x2 : Int32) (x3 : Int32) (x4 : Int32) (x5 : Int32) (x6 : Int32) (x7 : Int32) (x8 : Int32) (x9 : Int32) (σ : St), rc26 x1 x2 x3 x4 x5 x6 x7 x8 x9 σ = some res → WC p l e 0 s m args below meth c G (QI G res) 10 26 [(0, .ref (G.2.1 75)), (1, .int x1), (2, .int x2), (3, .int x3), (4, .int x4), (5, .int x5), (6, .int x6), (7, .int x7), (8, .int x8), (9, .int x9)] [] σ) : ∀ (x1 : Int32) (x2 : Int32) (x3 : Int32) (x4 : Int32) (x5 : Int32) (x6 : Int32) (x7 : Int32) (x9 : Int32) (t0 : Int32) (σ : St), f_X6_isCalled_111 rc26 x1 x2 x3 x4 x5 x6 x7 x9 t0 σ = some res → WC p l e 0 s m args below meth c G (QI G res) 10 111 [(0, .ref (G.2.1 75)), (1, .int x1), (2, .int x2), (3, .int x3), (4, .int x4), (5, .int x5), (6, .int x6), (7, .int x7), (9, .int x9)] [.int t0] σ := by
  have hx := C.1
  have hb := C.2.1
  have inX6 : ∀ w ∈ u_ws RX6 TX6 22, w ∈ wsX6_isCalled := fun w h => List.mem_cons_of_mem _ (List.mem_append_right _ h)
  intro x1 x2 x3 x4 x5 x6 x7 x9 t0 σ hf _ _ _ hR hS hl
  unfold f_X6_isCalled_111 at hf
  refine lv_istore (lv' := [(8, .int t0), (0, .ref (G.2.1 75)), (1, .int x1), (2, .int x2), (3, .int x3), (4, .int x4), (5, .int x5), (6, .int x6), (7, .int x7), (9, .int x9)]) hx hb dX6_isCalled_111 hl (by decide) rfl (fun ls hl => ?_)
  refine lv_iinc (v := x9 + 1) (lv' := [(9, .int (x9 + 1)), (8, .int t0), (0, .ref (G.2.1 75)), (1, .int x1), (2, .int x2), (3, .int x3), (4, .int x4), (5, .int x5), (6, .int x6), (7, .int x7)]) hx hb dX6_isCalled_113 hl (k := 9) rfl rfl (by decide) rfl (fun ls hl => ?_)
  refine lv_goto (tgt := 26) hx hb dX6_isCalled_116 (by decide) ?_
  exact hrc26 x1 x2 x3 x4 x5 x6 x7 t0 (x9 + 1) _ hf _ _ _ hR hS (lv_sub hl [2, 3, 4, 5, 6, 7, 8, 9, 1, 0] rfl)
set_option maxHeartbeats 4000000 in
set_option maxRecDepth 100000 in
theorem w_X6_isCalled_103 {p : Program} {l : Launch} {e : Env} {s : State} {m : MethodId} {args : Array Value} {below : List Frame} {meth : Method} {c : Code} {G : GG} (C : Cx p s m args meth c cX6_isCalled RX6 wsX6_isCalled (some .boolean) 10 G) {res : Int32 × St} {rc26 : Int32 → Int32 → Int32 → Int32 → Int32 → Int32 → Int32 → Int32 → Int32 → St → Option (Int32 × St)} (hrc26 : ∀ (x1 : Int32) (x2 : Int32) (x3 : Int32) (x4 : Int32) (x5 : Int32) (x6 : Int32) (x7 : Int32) (x8 : Int32) (x9 : Int32) (σ : St), rc26 x1 x2 x3 x4 x5 x6 x7 x8 x9 σ = some res → WC p l e 0 s m args below meth c G (QI G res) 10 26 [(0, .ref (G.2.1 75)), (1, .int x1), (2, .int x2), (3, .int x3), (4, .int x4), (5, .int x5), (6, .int x6), (7, .int x7), (8, .int x8), (9, .int x9)] [] σ) : ∀ (x1 : Int32) (x2 : Int32) (x3 : Int32) (x4 : Int32) (x5 : Int32) (x6 : Int32) (x7 : Int32) (x9 : Int32) (t0 : Int32) (t1 : Int32) (σ : St), f_X6_isCalled_103 rc26 x1 x2 x3 x4 x5 x6 x7 x9 t0 t1 σ = some res → WC p l e 0 s m args below meth c G (QI G res) 10 103 [(0, .ref (G.2.1 75)), (1, .int x1), (2, .int x2), (3, .int x3), (4, .int x4), (5, .int x5), (6, .int x6), (7, .int x7), (9, .int x9)] [.int t0, .int t1] σ := by
  have hx := C.1
  have hb := C.2.1
  have inX6 : ∀ w ∈ u_ws RX6 TX6 22, w ∈ wsX6_isCalled := fun w h => List.mem_cons_of_mem _ (List.mem_append_right _ h)
  intro x1 x2 x3 x4 x5 x6 x7 x9 t0 t1 σ hf _ _ _ hR hS hl
  unfold f_X6_isCalled_103 at hf
  refine lv_icmp_ne (tgt := 110) hx hb dX6_isCalled_103 (by decide) (fun c_103 => ?_) (fun c_103 => ?_)
  · replace hf := (if_neg c_103).symm.trans hf
    refine lv_iconst (v := 0) hx hb dX6_isCalled_110 (by decide) ?_
    exact w_X6_isCalled_111 C hrc26 x1 x2 x3 x4 x5 x6 x7 x9 0 _ hf _ _ _ hR hS (lv_sub hl [0, 1, 2, 3, 4, 5, 6, 7, 8] rfl)
  · replace hf := (if_pos c_103).symm.trans hf
    refine lv_iconst (v := 1) hx hb dX6_isCalled_106 (by decide) ?_
    refine lv_goto (tgt := 111) hx hb dX6_isCalled_107 (by decide) ?_
    exact w_X6_isCalled_111 C hrc26 x1 x2 x3 x4 x5 x6 x7 x9 1 _ hf _ _ _ hR hS (lv_sub hl [0, 1, 2, 3, 4, 5, 6, 7, 8] rfl)
set_option maxHeartbeats 4000000 in
set_option maxRecDepth 100000 in
theorem w_X6_isCalled_26 {p : Program} {l : Launch} {e : Env} {s : State} {m : MethodId} {args : Array Value} {below : List Frame} {meth : Method} {c : Code} {G : GG} (C : Cx p s m args meth c cX6_isCalled RX6 wsX6_isCalled (some .boolean) 10 G) {res : Int32 × St} : ∀ (n : Nat) (x1 : Int32) (x2 : Int32) (x3 : Int32) (x4 : Int32) (x5 : Int32) (x6 : Int32) (x7 : Int32) (x8 : Int32) (x9 : Int32) (σ : St), f_X6_isCalled_26 n x1 x2 x3 x4 x5 x6 x7 x8 x9 σ = some res → WC p l e 0 s m args below meth c G (QI G res) 10 26 [(0, .ref (G.2.1 75)), (1, .int x1), (2, .int x2), (3, .int x3), (4, .int x4), (5, .int x5), (6, .int x6), (7, .int x7), (8, .int x8), (9, .int x9)] [] σ := by
  have hx := C.1
  have hb := C.2.1
  have inX6 : ∀ w ∈ u_ws RX6 TX6 22, w ∈ wsX6_isCalled := fun w h => List.mem_cons_of_mem _ (List.mem_append_right _ h)
  intro n
  induction n with
  | zero => intro x1 x2 x3 x4 x5 x6 x7 x8 x9 σ hf; cases hf
  | succ n hrc26 =>
    intro x1 x2 x3 x4 x5 x6 x7 x8 x9 σ hf _ _ _ hR hS hl
    unfold f_X6_isCalled_26 at hf
    refine lv_iload hx hb dX6_isCalled_26 (lv_at hl 9 rfl) ?_
    refine lv_iload_n hx hb dX6_isCalled_28 rfl (lv_at hl 1 rfl) ?_
    refine lv_icmp_ge (tgt := 119) hx hb dX6_isCalled_29 (by decide) (fun c_29 => ?_) (fun c_29 => ?_)
    · replace hf := (if_pos c_29).symm.trans hf
      refine lv_iload hx hb dX6_isCalled_119 (lv_at hl 8 rfl) ?_
      obtain ⟨z_121, hf⟩ := gb_some hf
      obtain rfl := Option.some.inj hf
      exact x_zret C hR hS dX6_isCalled_121 z_121 ⟨rfl, rfl⟩
    · replace hf := (if_neg c_29).symm.trans hf
      refine lv_iload hx hb dX6_isCalled_32 (lv_at hl 8 rfl) ?_
      refine lv_if_eq (tgt := 119) hx hb dX6_isCalled_34 (by decide) (fun c_34 => ?_) (fun c_34 => ?_)
      · replace hf := (if_pos c_34).symm.trans hf
        refine lv_iload hx hb dX6_isCalled_119 (lv_at hl 8 rfl) ?_
        obtain ⟨z_121, hf⟩ := gb_some hf
        obtain rfl := Option.some.inj hf
        exact x_zret C hR hS dX6_isCalled_121 z_121 ⟨rfl, rfl⟩
      · replace hf := (if_neg c_34).symm.trans hf
        refine lv_aload_n hx hb dX6_isCalled_37 rfl (lv_at hl 0 rfl) ?_
        refine x_get C hR inX6 75 (by decide) (cz5 rfl) rfl 14 (by decide) 3 rfl (.ref (G.2.1 86)) rfl dX6_isCalled_38 ?_
        refine lv_aload_n hx hb dX6_isCalled_41 rfl (lv_at hl 0 rfl) ?_
        refine x_get C hR inX6 75 (by decide) (cz5 rfl) rfl 16 (by decide) 4 rfl (.int (sI σ 75 16)) rfl dX6_isCalled_42 ?_
        refine lv_iload hx hb dX6_isCalled_45 (lv_at hl 9 rfl) ?_
        refine lv_iadd hx hb dX6_isCalled_47 ?_
        obtain ⟨z_48, hf⟩ := gd_some hf
        refine x_iald C hR 86 rfl z_48 (n := ((sI σ 75 16) + x9).toNatClampNeg) rfl (sA σ 86 (((sI σ 75 16) + x9).toNatClampNeg)) rfl dX6_isCalled_48 ?_
        refine lv_iload hx hb dX6_isCalled_49 (lv_at hl 9 rfl) ?_
        refine lv_if_ne (tgt := 58) hx hb dX6_isCalled_51 (by decide) (fun c_51 => ?_) (fun c_51 => ?_)
        · replace hf := (if_neg c_51).symm.trans hf
          refine lv_iload hx hb dX6_isCalled_58 (lv_at hl 9 rfl) ?_
          refine lv_iconst (v := 1) hx hb dX6_isCalled_60 (by decide) ?_
          refine lv_icmp_ne (tgt := 68) hx hb dX6_isCalled_61 (by decide) (fun c_61 => ?_) (fun c_61 => ?_)
          · replace hf := (if_neg c_61).symm.trans hf
            refine lv_iload hx hb dX6_isCalled_68 (lv_at hl 9 rfl) ?_
            refine lv_iconst (v := 2) hx hb dX6_isCalled_70 (by decide) ?_
            refine lv_icmp_ne (tgt := 79) hx hb dX6_isCalled_71 (by decide) (fun c_71 => ?_) (fun c_71 => ?_)
            · replace hf := (if_neg c_71).symm.trans hf
              refine lv_iload hx hb dX6_isCalled_79 (lv_at hl 9 rfl) ?_
              refine lv_iconst (v := 3) hx hb dX6_isCalled_81 (by decide) ?_
              refine lv_icmp_ne (tgt := 90) hx hb dX6_isCalled_82 (by decide) (fun c_82 => ?_) (fun c_82 => ?_)
              · replace hf := (if_neg c_82).symm.trans hf
                refine lv_iload hx hb dX6_isCalled_90 (lv_at hl 9 rfl) ?_
                refine lv_iconst (v := 4) hx hb dX6_isCalled_92 (by decide) ?_
                refine lv_icmp_ne (tgt := 101) hx hb dX6_isCalled_93 (by decide) (fun c_93 => ?_) (fun c_93 => ?_)
                · replace hf := (if_neg c_93).symm.trans hf
                  refine lv_iload hx hb dX6_isCalled_101 (lv_at hl 7 rfl) ?_
                  exact w_X6_isCalled_103 C hrc26 x1 x2 x3 x4 x5 x6 x7 x9 x7 (sA σ 86 (((sI σ 75 16) + x9).toNatClampNeg)) _ hf _ _ _ hR hS (lv_sub hl [0, 1, 2, 3, 4, 5, 6, 7, 9] rfl)
                · replace hf := (if_pos c_93).symm.trans hf
                  refine lv_iload hx hb dX6_isCalled_96 (lv_at hl 6 rfl) ?_
                  refine lv_goto (tgt := 103) hx hb dX6_isCalled_98 (by decide) ?_
                  exact w_X6_isCalled_103 C hrc26 x1 x2 x3 x4 x5 x6 x7 x9 x6 (sA σ 86 (((sI σ 75 16) + x9).toNatClampNeg)) _ hf _ _ _ hR hS (lv_sub hl [0, 1, 2, 3, 4, 5, 6, 7, 9] rfl)
              · replace hf := (if_pos c_82).symm.trans hf
                refine lv_iload hx hb dX6_isCalled_85 (lv_at hl 5 rfl) ?_
                refine lv_goto (tgt := 103) hx hb dX6_isCalled_87 (by decide) ?_
                exact w_X6_isCalled_103 C hrc26 x1 x2 x3 x4 x5 x6 x7 x9 x5 (sA σ 86 (((sI σ 75 16) + x9).toNatClampNeg)) _ hf _ _ _ hR hS (lv_sub hl [0, 1, 2, 3, 4, 5, 6, 7, 9] rfl)
            · replace hf := (if_pos c_71).symm.trans hf
              refine lv_iload hx hb dX6_isCalled_74 (lv_at hl 4 rfl) ?_
              refine lv_goto (tgt := 103) hx hb dX6_isCalled_76 (by decide) ?_
              exact w_X6_isCalled_103 C hrc26 x1 x2 x3 x4 x5 x6 x7 x9 x4 (sA σ 86 (((sI σ 75 16) + x9).toNatClampNeg)) _ hf _ _ _ hR hS (lv_sub hl [0, 1, 2, 3, 4, 5, 6, 7, 9] rfl)
          · replace hf := (if_pos c_61).symm.trans hf
            refine lv_iload_n hx hb dX6_isCalled_64 rfl (lv_at hl 3 rfl) ?_
            refine lv_goto (tgt := 103) hx hb dX6_isCalled_65 (by decide) ?_
            exact w_X6_isCalled_103 C hrc26 x1 x2 x3 x4 x5 x6 x7 x9 x3 (sA σ 86 (((sI σ 75 16) + x9).toNatClampNeg)) _ hf _ _ _ hR hS (lv_sub hl [0, 1, 2, 3, 4, 5, 6, 7, 9] rfl)
        · replace hf := (if_pos c_51).symm.trans hf
          refine lv_iload_n hx hb dX6_isCalled_54 rfl (lv_at hl 2 rfl) ?_
          refine lv_goto (tgt := 103) hx hb dX6_isCalled_55 (by decide) ?_
          exact w_X6_isCalled_103 C hrc26 x1 x2 x3 x4 x5 x6 x7 x9 x2 (sA σ 86 (((sI σ 75 16) + x9).toNatClampNeg)) _ hf _ _ _ hR hS (lv_sub hl [0, 1, 2, 3, 4, 5, 6, 7, 9] rfl)
set_option maxHeartbeats 4000000 in
set_option maxRecDepth 100000 in
theorem w_X6_isCalled_21 {p : Program} {l : Launch} {e : Env} {s : State} {m : MethodId} {args : Array Value} {below : List Frame} {meth : Method} {c : Code} {G : GG} (C : Cx p s m args meth c cX6_isCalled RX6 wsX6_isCalled (some .boolean) 10 G) {res : Int32 × St} : ∀ (x1 : Int32) (x2 : Int32) (x3 : Int32) (x4 : Int32) (x5 : Int32) (x6 : Int32) (x7 : Int32) (t0 : Int32) (σ : St), f_X6_isCalled_21 x1 x2 x3 x4 x5 x6 x7 t0 σ = some res → WC p l e 0 s m args below meth c G (QI G res) 10 21 [(0, .ref (G.2.1 75)), (1, .int x1), (2, .int x2), (3, .int x3), (4, .int x4), (5, .int x5), (6, .int x6), (7, .int x7)] [.int t0] σ := by
  have hx := C.1
  have hb := C.2.1
  have inX6 : ∀ w ∈ u_ws RX6 TX6 22, w ∈ wsX6_isCalled := fun w h => List.mem_cons_of_mem _ (List.mem_append_right _ h)
  intro x1 x2 x3 x4 x5 x6 x7 t0 σ hf _ _ _ hR hS hl
  unfold f_X6_isCalled_21 at hf
  refine lv_istore (lv' := [(8, .int t0), (0, .ref (G.2.1 75)), (1, .int x1), (2, .int x2), (3, .int x3), (4, .int x4), (5, .int x5), (6, .int x6), (7, .int x7)]) hx hb dX6_isCalled_21 hl (by decide) rfl (fun ls hl => ?_)
  refine lv_iconst (v := 0) hx hb dX6_isCalled_23 (by decide) ?_
  refine lv_istore (lv' := [(9, .int 0), (8, .int t0), (0, .ref (G.2.1 75)), (1, .int x1), (2, .int x2), (3, .int x3), (4, .int x4), (5, .int x5), (6, .int x6), (7, .int x7)]) hx hb dX6_isCalled_24 hl (by decide) rfl (fun ls hl => ?_)
  exact w_X6_isCalled_26 C  FU x1 x2 x3 x4 x5 x6 x7 t0 0 _ hf _ _ _ hR hS (lv_sub hl [2, 3, 4, 5, 6, 7, 8, 9, 1, 0] rfl)
set_option maxHeartbeats 4000000 in
set_option maxRecDepth 100000 in
theorem w_X6_isCalled_20 {p : Program} {l : Launch} {e : Env} {s : State} {m : MethodId} {args : Array Value} {below : List Frame} {meth : Method} {c : Code} {G : GG} (C : Cx p s m args meth c cX6_isCalled RX6 wsX6_isCalled (some .boolean) 10 G) {res : Int32 × St} : ∀ (x1 : Int32) (x2 : Int32) (x3 : Int32) (x4 : Int32) (x5 : Int32) (x6 : Int32) (x7 : Int32) (σ : St), f_X6_isCalled_20 x1 x2 x3 x4 x5 x6 x7 σ = some res → WC p l e 0 s m args below meth c G (QI G res) 10 20 [(0, .ref (G.2.1 75)), (1, .int x1), (2, .int x2), (3, .int x3), (4, .int x4), (5, .int x5), (6, .int x6), (7, .int x7)] [] σ := by
  have hx := C.1
  have hb := C.2.1
  have inX6 : ∀ w ∈ u_ws RX6 TX6 22, w ∈ wsX6_isCalled := fun w h => List.mem_cons_of_mem _ (List.mem_append_right _ h)
  intro x1 x2 x3 x4 x5 x6 x7 σ hf _ _ _ hR hS hl
  unfold f_X6_isCalled_20 at hf
  refine lv_iconst (v := 0) hx hb dX6_isCalled_20 (by decide) ?_
  exact w_X6_isCalled_21 C  x1 x2 x3 x4 x5 x6 x7 0 _ hf _ _ _ hR hS (lv_sub hl [0, 1, 2, 3, 4, 5, 6, 7] rfl)
set_option maxHeartbeats 4000000 in
set_option maxRecDepth 100000 in
theorem c_X6_isCalled (l : Launch) (G : GG) (x1 : Int32) (x2 : Int32) (x3 : Int32) (x4 : Int32) (x5 : Int32) (x6 : Int32) (x7 : Int32) (σ : St) (res : Int32 × St) (hf : f_X6_isCalled x1 x2 x3 x4 x5 x6 x7 σ = some res) : CI l yX6_isCalled wsX6_isCalled 0 [.ref (G.2.1 75), .int x1, .int x2, .int x3, .int x4, .int x5, .int x6, .int x7] G σ (fun r u => r = res.1 ∧ u = res.2) := by
  refine x_ent (ret := (some .boolean)) cX6_isCalled 10 (by decide) rfl (Nat.le_of_ble_eq_true rfl) ?_
  intro p e s m below meth c ls C hR hS hl
  have C : Cx p s m [.ref (G.2.1 75), .int x1, .int x2, .int x3, .int x4, .int x5, .int x6, .int x7].toArray meth c cX6_isCalled RX6 wsX6_isCalled (some .boolean) 10 G := C
  have hx := C.1
  have hb := C.2.1
  have hl : lv_has ls 10 [(0, .ref (G.2.1 75)), (1, .int x1), (2, .int x2), (3, .int x3), (4, .int x4), (5, .int x5), (6, .int x6), (7, .int x7)] := hl
  have inX6 : ∀ w ∈ u_ws RX6 TX6 22, w ∈ wsX6_isCalled := fun w h => List.mem_cons_of_mem _ (List.mem_append_right _ h)
  unfold f_X6_isCalled at hf
  refine lv_aload_n hx hb dX6_isCalled_0 rfl (lv_at hl 0 rfl) ?_
  refine x_get C hR inX6 75 (by decide) (cz5 rfl) rfl 18 (by decide) 1 rfl (.int (sI σ 75 18)) rfl dX6_isCalled_1 ?_
  refine lv_iconst (v := 1) hx hb dX6_isCalled_4 (by decide) ?_
  refine lv_icmp_ne (tgt := 20) hx hb dX6_isCalled_5 (by decide) (fun c_5 => ?_) (fun c_5 => ?_)
  · replace hf := (if_neg c_5).symm.trans hf
    exact w_X6_isCalled_20 C  x1 x2 x3 x4 x5 x6 x7 _ hf _ _ _ hR hS (lv_sub hl [0, 1, 2, 3, 4, 5, 6, 7] rfl)
  · replace hf := (if_pos c_5).symm.trans hf
    refine lv_aload_n hx hb dX6_isCalled_8 rfl (lv_at hl 0 rfl) ?_
    refine x_get C hR inX6 75 (by decide) (cz5 rfl) rfl 17 (by decide) 2 rfl (.int (sI σ 75 17)) rfl dX6_isCalled_9 ?_
    refine lv_iload_n hx hb dX6_isCalled_12 rfl (lv_at hl 1 rfl) ?_
    refine lv_icmp_ne (tgt := 20) hx hb dX6_isCalled_13 (by decide) (fun c_13 => ?_) (fun c_13 => ?_)
    · replace hf := (if_neg c_13).symm.trans hf
      exact w_X6_isCalled_20 C  x1 x2 x3 x4 x5 x6 x7 _ hf _ _ _ hR hS (lv_sub hl [0, 1, 2, 3, 4, 5, 6, 7] rfl)
    · replace hf := (if_pos c_13).symm.trans hf
      refine lv_iconst (v := 1) hx hb dX6_isCalled_16 (by decide) ?_
      refine lv_goto (tgt := 21) hx hb dX6_isCalled_17 (by decide) ?_
      exact w_X6_isCalled_21 C  x1 x2 x3 x4 x5 x6 x7 1 _ hf _ _ _ hR hS (lv_sub hl [0, 1, 2, 3, 4, 5, 6, 7] rfl)
theorem hdV_X6_eats : yX6_eats.cls = RX6 ∧ yX6_eats.cls ≠ "java/lang/invoke/MethodHandle" ∧ yX6_eats.cls ≠ "java/lang/invoke/VarHandle" ∧ (parseMethodDescriptor yX6_eats.desc).map (fun d => d.parameters.length) = some 3 := by decide +kernel
def f_X6_eats (x1 : Int32) (x2 : Int32) (x3 : Int32) (σ : St) : Option (Int32 × St) :=
  (if (sI σ 75 18) = 2 then bd (f_X6_in ((sI σ 75 19).toInt64) x2.toInt64 x3.toInt64 σ) (fun r17 σ17 => (if r17 = 0 then some (0, σ17) else gd (x1 < 0 ∨ 3 ≤ x1.toNatClampNeg) (bv (f_X6_goOn (pA σ17 88 x1.toNatClampNeg (sI σ17 75 19))) (fun σ36 => some (1, σ36))))) else some (0, σ))
set_option maxHeartbeats 4000000 in
set_option maxRecDepth 100000 in
theorem c_X6_eats (l : Launch) (G : GG) (x1 : Int32) (x2 : Int32) (x3 : Int32) (σ : St) (res : Int32 × St) (hf : f_X6_eats x1 x2 x3 σ = some res) : CI l yX6_eats wsX6_eats 4 [.ref (G.2.1 75), .int x1, .int x2, .int x3] G σ (fun r u => r = res.1 ∧ u = res.2) := by
  refine x_ent (ret := (some .boolean)) cX6_eats 4 (by decide) rfl (Nat.le_of_ble_eq_true rfl) ?_
  intro p e s m below meth c ls C hR hS hl
  have C : Cx p s m [.ref (G.2.1 75), .int x1, .int x2, .int x3].toArray meth c cX6_eats RX6 wsX6_eats (some .boolean) 4 G := C
  have hx := C.1
  have hb := C.2.1
  have hl : lv_has ls 4 [(0, .ref (G.2.1 75)), (1, .int x1), (2, .int x2), (3, .int x3)] := hl
  have inX6 : ∀ w ∈ u_ws RX6 TX6 22, w ∈ wsX6_eats := fun w h => List.mem_cons_of_mem _ (List.mem_append_right _ h)
  unfold f_X6_eats at hf
  refine lv_aload_n hx hb dX6_eats_0 rfl (lv_at hl 0 rfl) ?_
  refine x_get C hR inX6 75 (by decide) (cz5 rfl) rfl 18 (by decide) 1 rfl (.int (sI σ 75 18)) rfl dX6_eats_1 ?_
  refine lv_iconst (v := 2) hx hb dX6_eats_4 (by decide) ?_
  refine lv_icmp_ne (tgt := 23) hx hb dX6_eats_5 (by decide) (fun c_5 => ?_) (fun c_5 => ?_)
  · replace hf := (if_neg c_5).symm.trans hf
    refine lv_iconst (v := 0) hx hb dX6_eats_23 (by decide) ?_
    obtain rfl := Option.some.inj hf
    exact x_zret C hR hS dX6_eats_24 (by first | rfl | decide | (simp only []; split <;> rfl)) ⟨rfl, rfl⟩
  · replace hf := (if_pos c_5).symm.trans hf
    refine lv_aload_n hx hb dX6_eats_8 rfl (lv_at hl 0 rfl) ?_
    refine x_get C hR inX6 75 (by decide) (cz5 rfl) rfl 19 (by decide) 2 rfl (.int (sI σ 75 19)) rfl dX6_eats_9 ?_
    refine lv_i2l (v := (sI σ 75 19).toInt64) hx hb dX6_eats_12 rfl ?_
    refine lv_iload_n hx hb dX6_eats_13 rfl (lv_at hl 2 rfl) ?_
    refine lv_i2l (v := x2.toInt64) hx hb dX6_eats_14 rfl ?_
    refine lv_iload_n hx hb dX6_eats_15 rfl (lv_at hl 3 rfl) ?_
    refine lv_i2l (v := x3.toInt64) hx hb dX6_eats_16 rfl ?_
    obtain ⟨r17_, σ17_, hc_17, hf⟩ := bd_some hf
    refine x_csI C hl.1 hR hS (c_X6_in l G ((sI σ 75 19).toInt64) x2.toInt64 x3.toInt64 σ _ hc_17) gX6_eats_X6_in rfl hdS_X6_in ⟨Nat.le_of_ble_eq_true rfl, Nat.le_of_ble_eq_true rfl⟩ rfl (As := [.long ((sI σ 75 19).toInt64), .long x2.toInt64, .long x3.toInt64]) (rest := []) rfl (Nat.le_of_ble_eq_true rfl) ⟨Nat.le_of_ble_eq_true rfl, Nat.le_of_ble_eq_true rfl⟩ dX6_eats_17 (fun r17 σ17 H locs hq_17 hR hS => ?_)
    obtain ⟨rfl, rfl⟩ := hq_17
    refine lv_if_ne (tgt := 25) hx hb dX6_eats_20 (by decide) (fun c_20 => ?_) (fun c_20 => ?_)
    · replace hf := (if_neg c_20).symm.trans hf
      refine lv_aload_n hx hb dX6_eats_25 rfl (lv_at hl 0 rfl) ?_
      refine x_get C hR inX6 75 (by decide) (cz5 rfl) rfl 21 (by decide) 3 rfl (.ref (G.2.1 88)) rfl dX6_eats_26 ?_
      refine lv_iload_n hx hb dX6_eats_29 rfl (lv_at hl 1 rfl) ?_
      refine lv_aload_n hx hb dX6_eats_30 rfl (lv_at hl 0 rfl) ?_
      refine x_get C hR inX6 75 (by decide) (cz5 rfl) rfl 19 (by decide) 2 rfl (.int (sI σ17 75 19)) rfl dX6_eats_31 ?_
      obtain ⟨z_34, hf⟩ := gd_some hf
      refine x_iast C hR hS 88 rfl z_34 (n := x1.toNatClampNeg) rfl dX6_eats_34 (fun H locs hR hS => ?_)
      refine lv_aload_n hx hb dX6_eats_35 rfl (lv_at hl 0 rfl) ?_
      obtain ⟨σ36_, hc_36, hf⟩ := bv_some hf
      refine x_cvV C hl.1 hR hS (c_X6_goOn l G (pA σ17 88 x1.toNatClampNeg (sI σ17 75 19)) _ hc_36) gX6_eats_X6_goOn rfl hdV_X6_goOn ⟨Nat.le_of_ble_eq_true rfl, Nat.le_of_ble_eq_true rfl⟩ (by decide) (cz5 rfl) rfl rfl (As := []) (rest := []) rfl (Nat.le_of_ble_eq_true rfl) ⟨Nat.le_of_ble_eq_true rfl, Nat.le_of_ble_eq_true rfl⟩ dX6_eats_36 (fun σ36 H locs hq_36 hR hS => ?_)
      subst hq_36
      refine lv_iconst (v := 1) hx hb dX6_eats_39 (by decide) ?_
      obtain rfl := Option.some.inj hf
      exact x_zret C hR hS dX6_eats_40 (by first | rfl | decide | (simp only []; split <;> rfl)) ⟨rfl, rfl⟩
    · replace hf := (if_pos c_20).symm.trans hf
      refine lv_iconst (v := 0) hx hb dX6_eats_23 (by decide) ?_
      obtain rfl := Option.some.inj hf
      exact x_zret C hR hS dX6_eats_24 (by first | rfl | decide | (simp only []; split <;> rfl)) ⟨rfl, rfl⟩
theorem hdV_X6_readsFirst : yX6_readsFirst.cls = RX6 ∧ yX6_readsFirst.cls ≠ "java/lang/invoke/MethodHandle" ∧ yX6_readsFirst.cls ≠ "java/lang/invoke/VarHandle" ∧ (parseMethodDescriptor yX6_readsFirst.desc).map (fun d => d.parameters.length) = some 0 := by decide +kernel
def f_X6_readsFirst_54 (x1 : Int32) (t0 : Int32) (σ : St) : Option (Int32 × St) :=
  bv (f_X6_begin_87 t0 σ) (fun σ54 => (if x1 = 0 then some (0, σ54) else (if (sI σ54 75 18) = 3 then some (1, σ54) else some (0, σ54))))
def f_X6_readsFirst (σ : St) : Option (Int32 × St) :=
  bd (f_X6_isCalled 6 102 108 105 103 104 116 σ) (fun r15 σ15 => (if r15 = 0 then some (0, σ15) else bv (f_X6_goOn σ15) (fun σ24 => bd (f_X6_eats 0 0 9 σ24) (fun r32 σ32 => (if r32 = 0 then f_X6_readsFirst_54 r32 0 σ32 else f_X6_readsFirst_54 r32 (sA σ32 88 0) σ32)))))
set_option maxHeartbeats 4000000 in
set_option maxRecDepth 100000 in
theorem w_X6_readsFirst_54 {p : Program} {l : Launch} {e : Env} {s : State} {m : MethodId} {args : Array Value} {below : List Frame} {meth : Method} {c : Code} {G : GG} (C : Cx p s m args meth c cX6_readsFirst RX6 wsX6_readsFirst (some .boolean) 2 G) {res : Int32 × St} : ∀ (x1 : Int32) (t0 : Int32) (σ : St), f_X6_readsFirst_54 x1 t0 σ = some res → WC p l e 5 s m args below meth c G (QI G res) 2 54 [(0, .ref (G.2.1 75)), (1, .int x1)] [.int t0, .ref (G.2.1 87)] σ := by
  have hx := C.1
  have hb := C.2.1
  have inX6 : ∀ w ∈ u_ws RX6 TX6 22, w ∈ wsX6_readsFirst := fun w h => List.mem_cons_of_mem _ (List.mem_append_right _ h)
  intro x1 t0 σ hf _ _ _ hR hS hl
  unfold f_X6_readsFirst_54 at hf
  obtain ⟨σ54_, hc_54, hf⟩ := bv_some hf
  refine x_csV C hl.1 hR hS (c_X6_begin_87 l G t0 σ _ hc_54) gX6_readsFirst_X6_begin rfl hdS_X6_begin ⟨Nat.le_of_ble_eq_true rfl, Nat.le_of_ble_eq_true rfl⟩ rfl (As := [.ref (G.2.1 87), .int t0]) (rest := []) rfl (Nat.le_of_ble_eq_true rfl) ⟨Nat.le_of_ble_eq_true rfl, Nat.le_of_ble_eq_true rfl⟩ dX6_readsFirst_54 (fun σ54 H locs hq_54 hR hS => ?_)
  subst hq_54
  refine lv_iload_n hx hb dX6_readsFirst_57 rfl (lv_at hl 1 rfl) ?_
  refine lv_if_eq (tgt := 73) hx hb dX6_readsFirst_58 (by decide) (fun c_58 => ?_) (fun c_58 => ?_)
  · replace hf := (if_pos c_58).symm.trans hf
    refine lv_iconst (v := 0) hx hb dX6_readsFirst_73 (by decide) ?_
    obtain rfl := Option.some.inj hf
    exact x_zret C hR hS dX6_readsFirst_74 (by first | rfl | decide | (simp only []; split <;> rfl)) ⟨rfl, rfl⟩
  · replace hf := (if_neg c_58).symm.trans hf
    refine lv_aload_n hx hb dX6_readsFirst_61 rfl (lv_at hl 0 rfl) ?_
    refine x_get C hR inX6 75 (by decide) (cz5 rfl) rfl 18 (by decide) 3 rfl (.int (sI σ54 75 18)) rfl dX6_readsFirst_62 ?_
    refine lv_iconst (v := 3) hx hb dX6_readsFirst_65 (by decide) ?_
    refine lv_icmp_ne (tgt := 73) hx hb dX6_readsFirst_66 (by decide) (fun c_66 => ?_) (fun c_66 => ?_)
    · replace hf := (if_neg c_66).symm.trans hf
      refine lv_iconst (v := 0) hx hb dX6_readsFirst_73 (by decide) ?_
      obtain rfl := Option.some.inj hf
      exact x_zret C hR hS dX6_readsFirst_74 (by first | rfl | decide | (simp only []; split <;> rfl)) ⟨rfl, rfl⟩
    · replace hf := (if_pos c_66).symm.trans hf
      refine lv_iconst (v := 1) hx hb dX6_readsFirst_69 (by decide) ?_
      refine lv_goto (tgt := 74) hx hb dX6_readsFirst_70 (by decide) ?_
      obtain rfl := Option.some.inj hf
      exact x_zret C hR hS dX6_readsFirst_74 (by first | rfl | decide | (simp only []; split <;> rfl)) ⟨rfl, rfl⟩
set_option maxHeartbeats 4000000 in
set_option maxRecDepth 100000 in
theorem c_X6_readsFirst (l : Launch) (G : GG) (σ : St) (res : Int32 × St) (hf : f_X6_readsFirst σ = some res) : CI l yX6_readsFirst wsX6_readsFirst 5 [.ref (G.2.1 75)] G σ (fun r u => r = res.1 ∧ u = res.2) := by
  refine x_ent (ret := (some .boolean)) cX6_readsFirst 2 (by decide) rfl (Nat.le_of_ble_eq_true rfl) ?_
  intro p e s m below meth c ls C hR hS hl
  have C : Cx p s m [.ref (G.2.1 75)].toArray meth c cX6_readsFirst RX6 wsX6_readsFirst (some .boolean) 2 G := C
  have hx := C.1
  have hb := C.2.1
  have hl : lv_has ls 2 [(0, .ref (G.2.1 75))] := hl
  have inX6 : ∀ w ∈ u_ws RX6 TX6 22, w ∈ wsX6_readsFirst := fun w h => List.mem_cons_of_mem _ (List.mem_append_right _ h)
  unfold f_X6_readsFirst at hf
  refine lv_aload_n hx hb dX6_readsFirst_0 rfl (lv_at hl 0 rfl) ?_
  refine lv_bipush (v := 6) hx hb dX6_readsFirst_1 (by decide) ?_
  refine lv_bipush (v := 102) hx hb dX6_readsFirst_3 (by decide) ?_
  refine lv_bipush (v := 108) hx hb dX6_readsFirst_5 (by decide) ?_
  refine lv_bipush (v := 105) hx hb dX6_readsFirst_7 (by decide) ?_
  refine lv_bipush (v := 103) hx hb dX6_readsFirst_9 (by decide) ?_
  refine lv_bipush (v := 104) hx hb dX6_readsFirst_11 (by decide) ?_
  refine lv_bipush (v := 116) hx hb dX6_readsFirst_13 (by decide) ?_
  obtain ⟨r15_, σ15_, hc_15, hf⟩ := bd_some hf
  refine x_cvI C hl.1 hR hS (c_X6_isCalled l G 6 102 108 105 103 104 116 σ _ hc_15) gX6_readsFirst_X6_isCalled rfl hdV_X6_isCalled ⟨Nat.le_of_ble_eq_true rfl, Nat.le_of_ble_eq_true rfl⟩ (by decide) (cz5 rfl) rfl rfl (As := [.int 6, .int 102, .int 108, .int 105, .int 103, .int 104, .int 116]) (rest := []) rfl (Nat.le_of_ble_eq_true rfl) ⟨Nat.le_of_ble_eq_true rfl, Nat.le_of_ble_eq_true rfl⟩ dX6_readsFirst_15 (fun r15 σ15 H locs hq_15 hR hS => ?_)
  obtain ⟨rfl, rfl⟩ := hq_15
  refine lv_if_ne (tgt := 23) hx hb dX6_readsFirst_18 (by decide) (fun c_18 => ?_) (fun c_18 => ?_)
  · replace hf := (if_neg c_18).symm.trans hf
    refine lv_aload_n hx hb dX6_readsFirst_23 rfl (lv_at hl 0 rfl) ?_
    obtain ⟨σ24_, hc_24, hf⟩ := bv_some hf
    refine x_cvV C hl.1 hR hS (c_X6_goOn l G σ15 _ hc_24) gX6_readsFirst_X6_goOn rfl hdV_X6_goOn ⟨Nat.le_of_ble_eq_true rfl, Nat.le_of_ble_eq_true rfl⟩ (by decide) (cz5 rfl) rfl rfl (As := []) (rest := []) rfl (Nat.le_of_ble_eq_true rfl) ⟨Nat.le_of_ble_eq_true rfl, Nat.le_of_ble_eq_true rfl⟩ dX6_readsFirst_24 (fun σ24 H locs hq_24 hR hS => ?_)
    subst hq_24
    refine lv_aload_n hx hb dX6_readsFirst_27 rfl (lv_at hl 0 rfl) ?_
    refine lv_iconst (v := 0) hx hb dX6_readsFirst_28 (by decide) ?_
    refine lv_iconst (v := 0) hx hb dX6_readsFirst_29 (by decide) ?_
    refine lv_bipush (v := 9) hx hb dX6_readsFirst_30 (by decide) ?_
    obtain ⟨r32_, σ32_, hc_32, hf⟩ := bd_some hf
    refine x_cvI C hl.1 hR hS (c_X6_eats l G 0 0 9 σ24 _ hc_32) gX6_readsFirst_X6_eats rfl hdV_X6_eats ⟨Nat.le_of_ble_eq_true rfl, Nat.le_of_ble_eq_true rfl⟩ (by decide) (cz5 rfl) rfl rfl (As := [.int 0, .int 0, .int 9]) (rest := []) rfl (Nat.le_of_ble_eq_true rfl) ⟨Nat.le_of_ble_eq_true rfl, Nat.le_of_ble_eq_true rfl⟩ dX6_readsFirst_32 (fun r32 σ32 H locs hq_32 hR hS => ?_)
    obtain ⟨rfl, rfl⟩ := hq_32
    refine lv_istore_n (lv' := [(1, .int r32), (0, .ref (G.2.1 75))]) hx hb dX6_readsFirst_35 rfl hl (by decide) rfl (fun ls hl => ?_)
    refine lv_aload_n hx hb dX6_readsFirst_36 rfl (lv_at hl 1 rfl) ?_
    refine x_get C hR inX6 75 (by decide) (cz5 rfl) rfl 20 (by decide) 1 rfl (.ref (G.2.1 87)) rfl dX6_readsFirst_37 ?_
    refine lv_iload_n hx hb dX6_readsFirst_40 rfl (lv_at hl 0 rfl) ?_
    refine lv_if_eq (tgt := 53) hx hb dX6_readsFirst_41 (by decide) (fun c_41 => ?_) (fun c_41 => ?_)
    · replace hf := (if_pos c_41).symm.trans hf
      refine lv_iconst (v := 0) hx hb dX6_readsFirst_53 (by decide) ?_
      exact w_X6_readsFirst_54 C  r32 0 _ hf _ _ _ hR hS (lv_sub hl [1, 0] rfl)
    · replace hf := (if_neg c_41).symm.trans hf
      refine lv_aload_n hx hb dX6_readsFirst_44 rfl (lv_at hl 1 rfl) ?_
      refine x_get C hR inX6 75 (by decide) (cz5 rfl) rfl 21 (by decide) 2 rfl (.ref (G.2.1 88)) rfl dX6_readsFirst_45 ?_
      refine lv_iconst (v := 0) hx hb dX6_readsFirst_48 (by decide) ?_
      refine x_iald C hR 88 rfl (x_in rfl) (n := 0) rfl (sA σ32 88 0) rfl dX6_readsFirst_49 ?_
      refine lv_goto (tgt := 54) hx hb dX6_readsFirst_50 (by decide) ?_
      exact w_X6_readsFirst_54 C  r32 (sA σ32 88 0) _ hf _ _ _ hR hS (lv_sub hl [1, 0] rfl)
  · replace hf := (if_pos c_18).symm.trans hf
    refine lv_iconst (v := 0) hx hb dX6_readsFirst_21 (by decide) ?_
    obtain rfl := Option.some.inj hf
    exact x_zret C hR hS dX6_readsFirst_22 (by first | rfl | decide | (simp only []; split <;> rfl)) ⟨rfl, rfl⟩
theorem hdV_X6_readsLock : yX6_readsLock.cls = RX6 ∧ yX6_readsLock.cls ≠ "java/lang/invoke/MethodHandle" ∧ yX6_readsLock.cls ≠ "java/lang/invoke/VarHandle" ∧ (parseMethodDescriptor yX6_readsLock.desc).map (fun d => d.parameters.length) = some 0 := by decide +kernel
def f_X6_readsLock (σ : St) : Option (Int32 × St) :=
  bd (f_X6_isCalled 4 108 111 99 107 0 0 σ) (fun r12 σ12 => (if r12 = 0 then some (0, σ12) else (if (sA σ12 87 0) = 8 then some (0, σ12) else bv (f_X6_goOn σ12) (fun σ32 => bd (f_X6_eats 0 0 5 σ32) (fun r39 σ39 => (if r39 = 0 then some (0, σ39) else bd (f_X6_eats 1 0 1 σ39) (fun r49 σ49 => (if r49 = 0 then some (0, σ49) else bd (f_X6_eats 2 1 20 σ49) (fun r60 σ60 => (if r60 = 0 then some (0, σ60) else bv (f_X6_layLock_87 (sA σ60 88 0) (sA σ60 88 1) (sA σ60 88 2) σ60) (fun σ90 => some (1, σ90))))))))))))
set_option maxHeartbeats 4000000 in
set_option maxRecDepth 100000 in
theorem c_X6_readsLock (l : Launch) (G : GG) (σ : St) (res : Int32 × St) (hf : f_X6_readsLock σ = some res) : CI l yX6_readsLock wsX6_readsLock 5 [.ref (G.2.1 75)] G σ (fun r u => r = res.1 ∧ u = res.2) := by
  refine x_ent (ret := (some .boolean)) cX6_readsLock 1 (by decide) rfl (Nat.le_of_ble_eq_true rfl) ?_
  intro p e s m below meth c ls C hR hS hl
  have C : Cx p s m [.ref (G.2.1 75)].toArray meth c cX6_readsLock RX6 wsX6_readsLock (some .boolean) 1 G := C
  have hx := C.1
  have hb := C.2.1
  have hl : lv_has ls 1 [(0, .ref (G.2.1 75))] := hl
  have inX6 : ∀ w ∈ u_ws RX6 TX6 22, w ∈ wsX6_readsLock := fun w h => List.mem_cons_of_mem _ (List.mem_append_right _ h)
  unfold f_X6_readsLock at hf
  refine lv_aload_n hx hb dX6_readsLock_0 rfl (lv_at hl 0 rfl) ?_
  refine lv_iconst (v := 4) hx hb dX6_readsLock_1 (by decide) ?_
  refine lv_bipush (v := 108) hx hb dX6_readsLock_2 (by decide) ?_
  refine lv_bipush (v := 111) hx hb dX6_readsLock_4 (by decide) ?_
  refine lv_bipush (v := 99) hx hb dX6_readsLock_6 (by decide) ?_
  refine lv_bipush (v := 107) hx hb dX6_readsLock_8 (by decide) ?_
  refine lv_iconst (v := 0) hx hb dX6_readsLock_10 (by decide) ?_
  refine lv_iconst (v := 0) hx hb dX6_readsLock_11 (by decide) ?_
  obtain ⟨r12_, σ12_, hc_12, hf⟩ := bd_some hf
  refine x_cvI C hl.1 hR hS (c_X6_isCalled l G 4 108 111 99 107 0 0 σ _ hc_12) gX6_readsLock_X6_isCalled rfl hdV_X6_isCalled ⟨Nat.le_of_ble_eq_true rfl, Nat.le_of_ble_eq_true rfl⟩ (by decide) (cz5 rfl) rfl rfl (As := [.int 4, .int 108, .int 111, .int 99, .int 107, .int 0, .int 0]) (rest := []) rfl (Nat.le_of_ble_eq_true rfl) ⟨Nat.le_of_ble_eq_true rfl, Nat.le_of_ble_eq_true rfl⟩ dX6_readsLock_12 (fun r12 σ12 H locs hq_12 hR hS => ?_)
  obtain ⟨rfl, rfl⟩ := hq_12
  refine lv_if_eq (tgt := 29) hx hb dX6_readsLock_15 (by decide) (fun c_15 => ?_) (fun c_15 => ?_)
  · replace hf := (if_pos c_15).symm.trans hf
    refine lv_iconst (v := 0) hx hb dX6_readsLock_29 (by decide) ?_
    obtain rfl := Option.some.inj hf
    exact x_zret C hR hS dX6_readsLock_30 (by first | rfl | decide | (simp only []; split <;> rfl)) ⟨rfl, rfl⟩
  · replace hf := (if_neg c_15).symm.trans hf
    refine lv_aload_n hx hb dX6_readsLock_18 rfl (lv_at hl 0 rfl) ?_
    refine x_get C hR inX6 75 (by decide) (cz5 rfl) rfl 20 (by decide) 1 rfl (.ref (G.2.1 87)) rfl dX6_readsLock_19 ?_
    refine lv_iconst (v := 0) hx hb dX6_readsLock_22 (by decide) ?_
    refine x_iald C hR 87 rfl (x_in rfl) (n := 0) rfl (sA σ12 87 0) rfl dX6_readsLock_23 ?_
    refine lv_bipush (v := 8) hx hb dX6_readsLock_24 (by decide) ?_
    refine lv_icmp_ne (tgt := 31) hx hb dX6_readsLock_26 (by decide) (fun c_26 => ?_) (fun c_26 => ?_)
    · replace hf := (if_neg c_26).symm.trans hf
      refine lv_aload_n hx hb dX6_readsLock_31 rfl (lv_at hl 0 rfl) ?_
      obtain ⟨σ32_, hc_32, hf⟩ := bv_some hf
      refine x_cvV C hl.1 hR hS (c_X6_goOn l G σ12 _ hc_32) gX6_readsLock_X6_goOn rfl hdV_X6_goOn ⟨Nat.le_of_ble_eq_true rfl, Nat.le_of_ble_eq_true rfl⟩ (by decide) (cz5 rfl) rfl rfl (As := []) (rest := []) rfl (Nat.le_of_ble_eq_true rfl) ⟨Nat.le_of_ble_eq_true rfl, Nat.le_of_ble_eq_true rfl⟩ dX6_readsLock_32 (fun σ32 H locs hq_32 hR hS => ?_)
      subst hq_32
      refine lv_aload_n hx hb dX6_readsLock_35 rfl (lv_at hl 0 rfl) ?_
      refine lv_iconst (v := 0) hx hb dX6_readsLock_36 (by decide) ?_
      refine lv_iconst (v := 0) hx hb dX6_readsLock_37 (by decide) ?_
      refine lv_iconst (v := 5) hx hb dX6_readsLock_38 (by decide) ?_
      obtain ⟨r39_, σ39_, hc_39, hf⟩ := bd_some hf
      refine x_cvI C hl.1 hR hS (c_X6_eats l G 0 0 5 σ32 _ hc_39) gX6_readsLock_X6_eats rfl hdV_X6_eats ⟨Nat.le_of_ble_eq_true rfl, Nat.le_of_ble_eq_true rfl⟩ (by decide) (cz5 rfl) rfl rfl (As := [.int 0, .int 0, .int 5]) (rest := []) rfl (Nat.le_of_ble_eq_true rfl) ⟨Nat.le_of_ble_eq_true rfl, Nat.le_of_ble_eq_true rfl⟩ dX6_readsLock_39 (fun r39 σ39 H locs hq_39 hR hS => ?_)
      obtain ⟨rfl, rfl⟩ := hq_39
      refine lv_if_eq (tgt := 66) hx hb dX6_readsLock_42 (by decide) (fun c_42 => ?_) (fun c_42 => ?_)
      · replace hf := (if_pos c_42).symm.trans hf
        refine lv_iconst (v := 0) hx hb dX6_readsLock_66 (by decide) ?_
        obtain rfl := Option.some.inj hf
        exact x_zret C hR hS dX6_readsLock_67 (by first | rfl | decide | (simp only []; split <;> rfl)) ⟨rfl, rfl⟩
      · replace hf := (if_neg c_42).symm.trans hf
        refine lv_aload_n hx hb dX6_readsLock_45 rfl (lv_at hl 0 rfl) ?_
        refine lv_iconst (v := 1) hx hb dX6_readsLock_46 (by decide) ?_
        refine lv_iconst (v := 0) hx hb dX6_readsLock_47 (by decide) ?_
        refine lv_iconst (v := 1) hx hb dX6_readsLock_48 (by decide) ?_
        obtain ⟨r49_, σ49_, hc_49, hf⟩ := bd_some hf
        refine x_cvI C hl.1 hR hS (c_X6_eats l G 1 0 1 σ39 _ hc_49) gX6_readsLock_X6_eats rfl hdV_X6_eats ⟨Nat.le_of_ble_eq_true rfl, Nat.le_of_ble_eq_true rfl⟩ (by decide) (cz5 rfl) rfl rfl (As := [.int 1, .int 0, .int 1]) (rest := []) rfl (Nat.le_of_ble_eq_true rfl) ⟨Nat.le_of_ble_eq_true rfl, Nat.le_of_ble_eq_true rfl⟩ dX6_readsLock_49 (fun r49 σ49 H locs hq_49 hR hS => ?_)
        obtain ⟨rfl, rfl⟩ := hq_49
        refine lv_if_eq (tgt := 66) hx hb dX6_readsLock_52 (by decide) (fun c_52 => ?_) (fun c_52 => ?_)
        · replace hf := (if_pos c_52).symm.trans hf
          refine lv_iconst (v := 0) hx hb dX6_readsLock_66 (by decide) ?_
          obtain rfl := Option.some.inj hf
          exact x_zret C hR hS dX6_readsLock_67 (by first | rfl | decide | (simp only []; split <;> rfl)) ⟨rfl, rfl⟩
        · replace hf := (if_neg c_52).symm.trans hf
          refine lv_aload_n hx hb dX6_readsLock_55 rfl (lv_at hl 0 rfl) ?_
          refine lv_iconst (v := 2) hx hb dX6_readsLock_56 (by decide) ?_
          refine lv_iconst (v := 1) hx hb dX6_readsLock_57 (by decide) ?_
          refine lv_bipush (v := 20) hx hb dX6_readsLock_58 (by decide) ?_
          obtain ⟨r60_, σ60_, hc_60, hf⟩ := bd_some hf
          refine x_cvI C hl.1 hR hS (c_X6_eats l G 2 1 20 σ49 _ hc_60) gX6_readsLock_X6_eats rfl hdV_X6_eats ⟨Nat.le_of_ble_eq_true rfl, Nat.le_of_ble_eq_true rfl⟩ (by decide) (cz5 rfl) rfl rfl (As := [.int 2, .int 1, .int 20]) (rest := []) rfl (Nat.le_of_ble_eq_true rfl) ⟨Nat.le_of_ble_eq_true rfl, Nat.le_of_ble_eq_true rfl⟩ dX6_readsLock_60 (fun r60 σ60 H locs hq_60 hR hS => ?_)
          obtain ⟨rfl, rfl⟩ := hq_60
          refine lv_if_ne (tgt := 68) hx hb dX6_readsLock_63 (by decide) (fun c_63 => ?_) (fun c_63 => ?_)
          · replace hf := (if_neg c_63).symm.trans hf
            refine lv_aload_n hx hb dX6_readsLock_68 rfl (lv_at hl 0 rfl) ?_
            refine x_get C hR inX6 75 (by decide) (cz5 rfl) rfl 20 (by decide) 1 rfl (.ref (G.2.1 87)) rfl dX6_readsLock_69 ?_
            refine lv_aload_n hx hb dX6_readsLock_72 rfl (lv_at hl 0 rfl) ?_
            refine x_get C hR inX6 75 (by decide) (cz5 rfl) rfl 21 (by decide) 2 rfl (.ref (G.2.1 88)) rfl dX6_readsLock_73 ?_
            refine lv_iconst (v := 0) hx hb dX6_readsLock_76 (by decide) ?_
            refine x_iald C hR 88 rfl (x_in rfl) (n := 0) rfl (sA σ60 88 0) rfl dX6_readsLock_77 ?_
            refine lv_aload_n hx hb dX6_readsLock_78 rfl (lv_at hl 0 rfl) ?_
            refine x_get C hR inX6 75 (by decide) (cz5 rfl) rfl 21 (by decide) 2 rfl (.ref (G.2.1 88)) rfl dX6_readsLock_79 ?_
            refine lv_iconst (v := 1) hx hb dX6_readsLock_82 (by decide) ?_
            refine x_iald C hR 88 rfl (x_in rfl) (n := 1) rfl (sA σ60 88 1) rfl dX6_readsLock_83 ?_
            refine lv_aload_n hx hb dX6_readsLock_84 rfl (lv_at hl 0 rfl) ?_
            refine x_get C hR inX6 75 (by decide) (cz5 rfl) rfl 21 (by decide) 2 rfl (.ref (G.2.1 88)) rfl dX6_readsLock_85 ?_
            refine lv_iconst (v := 2) hx hb dX6_readsLock_88 (by decide) ?_
            refine x_iald C hR 88 rfl (x_in rfl) (n := 2) rfl (sA σ60 88 2) rfl dX6_readsLock_89 ?_
            obtain ⟨σ90_, hc_90, hf⟩ := bv_some hf
            refine x_csV C hl.1 hR hS (c_X6_layLock_87 l G (sA σ60 88 0) (sA σ60 88 1) (sA σ60 88 2) σ60 _ hc_90) gX6_readsLock_X6_layLock rfl hdS_X6_layLock ⟨Nat.le_of_ble_eq_true rfl, Nat.le_of_ble_eq_true rfl⟩ rfl (As := [.ref (G.2.1 87), .int (sA σ60 88 0), .int (sA σ60 88 1), .int (sA σ60 88 2)]) (rest := []) rfl (Nat.le_of_ble_eq_true rfl) ⟨Nat.le_of_ble_eq_true rfl, Nat.le_of_ble_eq_true rfl⟩ dX6_readsLock_90 (fun σ90 H locs hq_90 hR hS => ?_)
            subst hq_90
            refine lv_iconst (v := 1) hx hb dX6_readsLock_93 (by decide) ?_
            obtain rfl := Option.some.inj hf
            exact x_zret C hR hS dX6_readsLock_94 (by first | rfl | decide | (simp only []; split <;> rfl)) ⟨rfl, rfl⟩
          · replace hf := (if_pos c_63).symm.trans hf
            refine lv_iconst (v := 0) hx hb dX6_readsLock_66 (by decide) ?_
            obtain rfl := Option.some.inj hf
            exact x_zret C hR hS dX6_readsLock_67 (by first | rfl | decide | (simp only []; split <;> rfl)) ⟨rfl, rfl⟩
    · replace hf := (if_pos c_26).symm.trans hf
      refine lv_iconst (v := 0) hx hb dX6_readsLock_29 (by decide) ?_
      obtain rfl := Option.some.inj hf
      exact x_zret C hR hS dX6_readsLock_30 (by first | rfl | decide | (simp only []; split <;> rfl)) ⟨rfl, rfl⟩
theorem hdV_X6_read : yX6_read.cls = RX6 ∧ yX6_read.cls ≠ "java/lang/invoke/MethodHandle" ∧ yX6_read.cls ≠ "java/lang/invoke/VarHandle" ∧ (parseMethodDescriptor yX6_read.desc).map (fun d => d.parameters.length) = some 0 := by decide +kernel
def f_X6_read_68 : Nat → Int32 → Int32 → St → Option (Int32 × St)
  | 0, _, _, _ => none
  | n + 1, x1, x2, σ => (if 42 ≤ x2 then some (x1, σ) else gd (x2 < 0 ∨ 42 ≤ x2.toNatClampNeg) (gd (x2 < 0 ∨ 122 ≤ x2.toNatClampNeg) ((f_X6_read_68 n) x1 (x2 + 1) (pA σ 76 x2.toNatClampNeg (sA σ 87 x2.toNatClampNeg)))))
def f_X6_read_48 (σ : St) : Option (Int32 × St) :=
  some ((-10) - (sI σ 75 16), σ)
def f_X6_read_26 : Nat → Int32 → St → Option (Int32 × St)
  | 0, _, _ => none
  | n + 1, x1, σ => (if (sI σ 75 18) = 0 then f_X6_read_68 FU x1 0 σ else bd (f_X6_readsLock σ) (fun r34 σ34 => (if r34 = 0 then f_X6_read_48 σ34 else (if (sI σ34 75 18) = 3 then bv (f_X6_goOn σ34) (fun σ57 => (f_X6_read_26 n) (x1 + 1) σ57) else f_X6_read_48 σ34))))
def f_X6_read (σ : St) : Option (Int32 × St) :=
  bv (f_X6_lookAt 0 σ) (fun σ2 => bd (f_X6_readsFirst σ2) (fun r6 σ6 => (if r6 = 0 then some ((-10) - (sI σ6 75 16), σ6) else bv (f_X6_goOn σ6) (fun σ21 => f_X6_read_26 FU 1 σ21))))
set_option maxHeartbeats 4000000 in
set_option maxRecDepth 100000 in
theorem w_X6_read_68 {p : Program} {l : Launch} {e : Env} {s : State} {m : MethodId} {args : Array Value} {below : List Frame} {meth : Method} {c : Code} {G : GG} (C : Cx p s m args meth c cX6_read RX6 wsX6_read (some .int) 3 G) {res : Int32 × St} : ∀ (n : Nat) (x1 : Int32) (x2 : Int32) (σ : St), f_X6_read_68 n x1 x2 σ = some res → WC p l e 6 s m args below meth c G (QI G res) 3 68 [(0, .ref (G.2.1 75)), (1, .int x1), (2, .int x2)] [] σ := by
  have hx := C.1
  have hb := C.2.1
  have inX6 : ∀ w ∈ u_ws RX6 TX6 22, w ∈ wsX6_read := fun w h => List.mem_cons_of_mem _ (List.mem_append_right _ h)
  intro n
  induction n with
  | zero => intro x1 x2 σ hf; cases hf
  | succ n hrc68 =>
    intro x1 x2 σ hf _ _ _ hR hS hl
    unfold f_X6_read_68 at hf
    refine lv_iload_n hx hb dX6_read_68 rfl (lv_at hl 2 rfl) ?_
    refine lv_bipush (v := 42) hx hb dX6_read_69 (by decide) ?_
    refine lv_icmp_ge (tgt := 92) hx hb dX6_read_71 (by decide) (fun c_71 => ?_) (fun c_71 => ?_)
    · replace hf := (if_pos c_71).symm.trans hf
      refine lv_iload_n hx hb dX6_read_92 rfl (lv_at hl 1 rfl) ?_
      obtain rfl := Option.some.inj hf
      exact x_iret C hR hS dX6_read_93 ⟨rfl, rfl⟩
    · replace hf := (if_neg c_71).symm.trans hf
      refine lv_aload_n hx hb dX6_read_74 rfl (lv_at hl 0 rfl) ?_
      refine x_get C hR inX6 75 (by decide) (cz5 rfl) rfl 0 (by decide) 3 rfl (.ref (G.2.1 76)) rfl dX6_read_75 ?_
      refine lv_iload_n hx hb dX6_read_78 rfl (lv_at hl 2 rfl) ?_
      refine lv_aload_n hx hb dX6_read_79 rfl (lv_at hl 0 rfl) ?_
      refine x_get C hR inX6 75 (by decide) (cz5 rfl) rfl 20 (by decide) 4 rfl (.ref (G.2.1 87)) rfl dX6_read_80 ?_
      refine lv_iload_n hx hb dX6_read_83 rfl (lv_at hl 2 rfl) ?_
      obtain ⟨z_84, hf⟩ := gd_some hf
      refine x_iald C hR 87 rfl z_84 (n := x2.toNatClampNeg) rfl (sA σ 87 x2.toNatClampNeg) rfl dX6_read_84 ?_
      obtain ⟨z_85, hf⟩ := gd_some hf
      refine x_iast C hR hS 76 rfl z_85 (n := x2.toNatClampNeg) rfl dX6_read_85 (fun H locs hR hS => ?_)
      refine lv_iinc (v := x2 + 1) (lv' := [(2, .int (x2 + 1)), (0, .ref (G.2.1 75)), (1, .int x1)]) hx hb dX6_read_86 hl (k := 2) rfl rfl (by decide) rfl (fun ls hl => ?_)
      refine lv_goto (tgt := 68) hx hb dX6_read_89 (by decide) ?_
      exact hrc68 x1 (x2 + 1) _ hf _ _ _ hR hS (lv_sub hl [1, 2, 0] rfl)
set_option maxHeartbeats 4000000 in
set_option maxRecDepth 100000 in
theorem w_X6_read_48 {p : Program} {l : Launch} {e : Env} {s : State} {m : MethodId} {args : Array Value} {below : List Frame} {meth : Method} {c : Code} {G : GG} (C : Cx p s m args meth c cX6_read RX6 wsX6_read (some .int) 3 G) {res : Int32 × St} : ∀ (σ : St), f_X6_read_48  σ = some res → WC p l e 6 s m args below meth c G (QI G res) 3 48 [(0, .ref (G.2.1 75))] [] σ := by
  have hx := C.1
  have hb := C.2.1
  have inX6 : ∀ w ∈ u_ws RX6 TX6 22, w ∈ wsX6_read := fun w h => List.mem_cons_of_mem _ (List.mem_append_right _ h)
  intro  σ hf _ _ _ hR hS hl
  unfold f_X6_read_48 at hf
  refine lv_bipush (v := (-10)) hx hb dX6_read_48 (by decide) ?_
  refine lv_aload_n hx hb dX6_read_50 rfl (lv_at hl 0 rfl) ?_
  refine x_get C hR inX6 75 (by decide) (cz5 rfl) rfl 16 (by decide) 1 rfl (.int (sI σ 75 16)) rfl dX6_read_51 ?_
  refine lv_isub hx hb dX6_read_54 ?_
  obtain rfl := Option.some.inj hf
  exact x_iret C hR hS dX6_read_55 ⟨rfl, rfl⟩
set_option maxHeartbeats 4000000 in
set_option maxRecDepth 100000 in
theorem w_X6_read_26 {p : Program} {l : Launch} {e : Env} {s : State} {m : MethodId} {args : Array Value} {below : List Frame} {meth : Method} {c : Code} {G : GG} (C : Cx p s m args meth c cX6_read RX6 wsX6_read (some .int) 3 G) {res : Int32 × St} : ∀ (n : Nat) (x1 : Int32) (σ : St), f_X6_read_26 n x1 σ = some res → WC p l e 6 s m args below meth c G (QI G res) 3 26 [(0, .ref (G.2.1 75)), (1, .int x1)] [] σ := by
  have hx := C.1
  have hb := C.2.1
  have inX6 : ∀ w ∈ u_ws RX6 TX6 22, w ∈ wsX6_read := fun w h => List.mem_cons_of_mem _ (List.mem_append_right _ h)
  intro n
  induction n with
  | zero => intro x1 σ hf; cases hf
  | succ n hrc26 =>
    intro x1 σ hf _ _ _ hR hS hl
    unfold f_X6_read_26 at hf
    refine lv_aload_n hx hb dX6_read_26 rfl (lv_at hl 0 rfl) ?_
    refine x_get C hR inX6 75 (by decide) (cz5 rfl) rfl 18 (by decide) 2 rfl (.int (sI σ 75 18)) rfl dX6_read_27 ?_
    refine lv_if_eq (tgt := 66) hx hb dX6_read_30 (by decide) (fun c_30 => ?_) (fun c_30 => ?_)
    · replace hf := (if_pos c_30).symm.trans hf
      refine lv_iconst (v := 0) hx hb dX6_read_66 (by decide) ?_
      refine lv_istore_n (lv' := [(2, .int 0), (0, .ref (G.2.1 75)), (1, .int x1)]) hx hb dX6_read_67 rfl hl (by decide) rfl (fun ls hl => ?_)
      exact w_X6_read_68 C  FU x1 0 _ hf _ _ _ hR hS (lv_sub hl [1, 2, 0] rfl)
    · replace hf := (if_neg c_30).symm.trans hf
      refine lv_aload_n hx hb dX6_read_33 rfl (lv_at hl 0 rfl) ?_
      obtain ⟨r34_, σ34_, hc_34, hf⟩ := bd_some hf
      refine x_cvI C hl.1 hR hS (c_X6_readsLock l G σ _ hc_34) gX6_read_X6_readsLock rfl hdV_X6_readsLock ⟨Nat.le_of_ble_eq_true rfl, Nat.le_of_ble_eq_true rfl⟩ (by decide) (cz5 rfl) rfl rfl (As := []) (rest := []) rfl (Nat.le_of_ble_eq_true rfl) ⟨Nat.le_of_ble_eq_true rfl, Nat.le_of_ble_eq_true rfl⟩ dX6_read_34 (fun r34 σ34 H locs hq_34 hR hS => ?_)
      obtain ⟨rfl, rfl⟩ := hq_34
      refine lv_if_eq (tgt := 48) hx hb dX6_read_37 (by decide) (fun c_37 => ?_) (fun c_37 => ?_)
      · replace hf := (if_pos c_37).symm.trans hf
        exact w_X6_read_48 C  _ hf _ _ _ hR hS (lv_sub hl [0] rfl)
      · replace hf := (if_neg c_37).symm.trans hf
        refine lv_aload_n hx hb dX6_read_40 rfl (lv_at hl 0 rfl) ?_
        refine x_get C hR inX6 75 (by decide) (cz5 rfl) rfl 18 (by decide) 2 rfl (.int (sI σ34 75 18)) rfl dX6_read_41 ?_
        refine lv_iconst (v := 3) hx hb dX6_read_44 (by decide) ?_
        refine lv_icmp_eq (tgt := 56) hx hb dX6_read_45 (by decide) (fun c_45 => ?_) (fun c_45 => ?_)
        · replace hf := (if_pos c_45).symm.trans hf
          refine lv_aload_n hx hb dX6_read_56 rfl (lv_at hl 0 rfl) ?_
          obtain ⟨σ57_, hc_57, hf⟩ := bv_some hf
          refine x_cvV C hl.1 hR hS (c_X6_goOn l G σ34 _ hc_57) gX6_read_X6_goOn rfl hdV_X6_goOn ⟨Nat.le_of_ble_eq_true rfl, Nat.le_of_ble_eq_true rfl⟩ (by decide) (cz5 rfl) rfl rfl (As := []) (rest := []) rfl (Nat.le_of_ble_eq_true rfl) ⟨Nat.le_of_ble_eq_true rfl, Nat.le_of_ble_eq_true rfl⟩ dX6_read_57 (fun σ57 H locs hq_57 hR hS => ?_)
          subst hq_57
          refine lv_iinc (v := x1 + 1) (lv' := [(1, .int (x1 + 1)), (0, .ref (G.2.1 75))]) hx hb dX6_read_60 hl (k := 1) rfl rfl (by decide) rfl (fun ls hl => ?_)
          refine lv_goto (tgt := 26) hx hb dX6_read_63 (by decide) ?_
          exact hrc26 (x1 + 1) _ hf _ _ _ hR hS (lv_sub hl [1, 0] rfl)
        · replace hf := (if_neg c_45).symm.trans hf
          exact w_X6_read_48 C  _ hf _ _ _ hR hS (lv_sub hl [0] rfl)
set_option maxHeartbeats 4000000 in
set_option maxRecDepth 100000 in
theorem c_X6_read (l : Launch) (G : GG) (σ : St) (res : Int32 × St) (hf : f_X6_read σ = some res) : CI l yX6_read wsX6_read 6 [.ref (G.2.1 75)] G σ (fun r u => r = res.1 ∧ u = res.2) := by
  refine x_ent (ret := (some .int)) cX6_read 3 (by decide) rfl (Nat.le_of_ble_eq_true rfl) ?_
  intro p e s m below meth c ls C hR hS hl
  have C : Cx p s m [.ref (G.2.1 75)].toArray meth c cX6_read RX6 wsX6_read (some .int) 3 G := C
  have hx := C.1
  have hb := C.2.1
  have hl : lv_has ls 3 [(0, .ref (G.2.1 75))] := hl
  have inX6 : ∀ w ∈ u_ws RX6 TX6 22, w ∈ wsX6_read := fun w h => List.mem_cons_of_mem _ (List.mem_append_right _ h)
  unfold f_X6_read at hf
  refine lv_aload_n hx hb dX6_read_0 rfl (lv_at hl 0 rfl) ?_
  refine lv_iconst (v := 0) hx hb dX6_read_1 (by decide) ?_
  obtain ⟨σ2_, hc_2, hf⟩ := bv_some hf
  refine x_cvV C hl.1 hR hS (c_X6_lookAt l G 0 σ _ hc_2) gX6_read_X6_lookAt rfl hdV_X6_lookAt ⟨Nat.le_of_ble_eq_true rfl, Nat.le_of_ble_eq_true rfl⟩ (by decide) (cz5 rfl) rfl rfl (As := [.int 0]) (rest := []) rfl (Nat.le_of_ble_eq_true rfl) ⟨Nat.le_of_ble_eq_true rfl, Nat.le_of_ble_eq_true rfl⟩ dX6_read_2 (fun σ2 H locs hq_2 hR hS => ?_)
  subst hq_2
  refine lv_aload_n hx hb dX6_read_5 rfl (lv_at hl 0 rfl) ?_
  obtain ⟨r6_, σ6_, hc_6, hf⟩ := bd_some hf
  refine x_cvI C hl.1 hR hS (c_X6_readsFirst l G σ2 _ hc_6) gX6_read_X6_readsFirst rfl hdV_X6_readsFirst ⟨Nat.le_of_ble_eq_true rfl, Nat.le_of_ble_eq_true rfl⟩ (by decide) (cz5 rfl) rfl rfl (As := []) (rest := []) rfl (Nat.le_of_ble_eq_true rfl) ⟨Nat.le_of_ble_eq_true rfl, Nat.le_of_ble_eq_true rfl⟩ dX6_read_6 (fun r6 σ6 H locs hq_6 hR hS => ?_)
  obtain ⟨rfl, rfl⟩ := hq_6
  refine lv_if_ne (tgt := 20) hx hb dX6_read_9 (by decide) (fun c_9 => ?_) (fun c_9 => ?_)
  · replace hf := (if_neg c_9).symm.trans hf
    refine lv_aload_n hx hb dX6_read_20 rfl (lv_at hl 0 rfl) ?_
    obtain ⟨σ21_, hc_21, hf⟩ := bv_some hf
    refine x_cvV C hl.1 hR hS (c_X6_goOn l G σ6 _ hc_21) gX6_read_X6_goOn rfl hdV_X6_goOn ⟨Nat.le_of_ble_eq_true rfl, Nat.le_of_ble_eq_true rfl⟩ (by decide) (cz5 rfl) rfl rfl (As := []) (rest := []) rfl (Nat.le_of_ble_eq_true rfl) ⟨Nat.le_of_ble_eq_true rfl, Nat.le_of_ble_eq_true rfl⟩ dX6_read_21 (fun σ21 H locs hq_21 hR hS => ?_)
    subst hq_21
    refine lv_iconst (v := 1) hx hb dX6_read_24 (by decide) ?_
    refine lv_istore_n (lv' := [(1, .int 1), (0, .ref (G.2.1 75))]) hx hb dX6_read_25 rfl hl (by decide) rfl (fun ls hl => ?_)
    exact w_X6_read_26 C  FU 1 _ hf _ _ _ hR hS (lv_sub hl [1, 0] rfl)
  · replace hf := (if_pos c_9).symm.trans hf
    refine lv_bipush (v := (-10)) hx hb dX6_read_12 (by decide) ?_
    refine lv_aload_n hx hb dX6_read_14 rfl (lv_at hl 0 rfl) ?_
    refine x_get C hR inX6 75 (by decide) (cz5 rfl) rfl 16 (by decide) 1 rfl (.int (sI σ6 75 16)) rfl dX6_read_15 ?_
    refine lv_isub hx hb dX6_read_18 ?_
    obtain rfl := Option.some.inj hf
    exact x_iret C hR hS dX6_read_19 ⟨rfl, rfl⟩
theorem hdV_X6_part : yX6_part.cls = RX6 ∧ yX6_part.cls ≠ "java/lang/invoke/MethodHandle" ∧ yX6_part.cls ≠ "java/lang/invoke/VarHandle" ∧ (parseMethodDescriptor yX6_part.desc).map (fun d => d.parameters.length) = some 1 := by decide +kernel
def f_X6_part (x1 : Int32) (σ : St) : Option (Int64 × St) :=
  (if x1 = 0 then some (sL σ 75 4, σ) else (if x1 = 1 then some (sL σ 75 5, σ) else bd (f_X6_bad (-2) σ) (fun r26 σ26 => some (r26.toInt64, σ26))))
set_option maxHeartbeats 4000000 in
set_option maxRecDepth 100000 in
theorem c_X6_part (l : Launch) (G : GG) (x1 : Int32) (σ : St) (res : Int64 × St) (hf : f_X6_part x1 σ = some res) : CL l yX6_part wsX6_part 1 [.ref (G.2.1 75), .int x1] G σ (fun r u => r = res.1 ∧ u = res.2) := by
  refine x_ent (ret := (some .long)) cX6_part 2 (by decide) rfl (Nat.le_of_ble_eq_true rfl) ?_
  intro p e s m below meth c ls C hR hS hl
  have C : Cx p s m [.ref (G.2.1 75), .int x1].toArray meth c cX6_part RX6 wsX6_part (some .long) 2 G := C
  have hx := C.1
  have hb := C.2.1
  have hl : lv_has ls 2 [(0, .ref (G.2.1 75)), (1, .int x1)] := hl
  have inX6 : ∀ w ∈ u_ws RX6 TX6 22, w ∈ wsX6_part := fun w h => List.mem_cons_of_mem _ (List.mem_append_right _ h)
  unfold f_X6_part at hf
  refine lv_iload_n hx hb dX6_part_0 rfl (lv_at hl 1 rfl) ?_
  refine lv_if_ne (tgt := 11) hx hb dX6_part_1 (by decide) (fun c_1 => ?_) (fun c_1 => ?_)
  · replace hf := (if_neg c_1).symm.trans hf
    refine lv_iload_n hx hb dX6_part_11 rfl (lv_at hl 1 rfl) ?_
    refine lv_iconst (v := 1) hx hb dX6_part_12 (by decide) ?_
    refine lv_icmp_ne (tgt := 23) hx hb dX6_part_13 (by decide) (fun c_13 => ?_) (fun c_13 => ?_)
    · replace hf := (if_neg c_13).symm.trans hf
      refine lv_aload_n hx hb dX6_part_23 rfl (lv_at hl 0 rfl) ?_
      refine lv_bipush (v := (-2)) hx hb dX6_part_24 (by decide) ?_
      obtain ⟨r26_, σ26_, hc_26, hf⟩ := bd_some hf
      refine x_cvI C hl.1 hR hS (c_X6_bad l G (-2) σ _ hc_26) gX6_part_X6_bad rfl hdV_X6_bad ⟨Nat.le_of_ble_eq_true rfl, Nat.le_of_ble_eq_true rfl⟩ (by decide) (cz5 rfl) rfl rfl (As := [.int (-2)]) (rest := []) rfl (Nat.le_of_ble_eq_true rfl) ⟨Nat.le_of_ble_eq_true rfl, Nat.le_of_ble_eq_true rfl⟩ dX6_part_26 (fun r26 σ26 H locs hq_26 hR hS => ?_)
      obtain ⟨rfl, rfl⟩ := hq_26
      refine lv_i2l (v := r26.toInt64) hx hb dX6_part_29 rfl ?_
      obtain rfl := Option.some.inj hf
      exact x_lret C hR hS dX6_part_30 ⟨rfl, rfl⟩
    · replace hf := (if_pos c_13).symm.trans hf
      refine lv_aload_n hx hb dX6_part_16 rfl (lv_at hl 0 rfl) ?_
      refine x_get C hR inX6 75 (by decide) (cz5 rfl) rfl 5 (by decide) 2 rfl (.long (sL σ 75 5)) rfl dX6_part_17 ?_
      refine lv_goto (tgt := 30) hx hb dX6_part_20 (by decide) ?_
      obtain rfl := Option.some.inj hf
      exact x_lret C hR hS dX6_part_30 ⟨rfl, rfl⟩
  · replace hf := (if_pos c_1).symm.trans hf
    refine lv_aload_n hx hb dX6_part_4 rfl (lv_at hl 0 rfl) ?_
    refine x_get C hR inX6 75 (by decide) (cz5 rfl) rfl 4 (by decide) 1 rfl (.long (sL σ 75 4)) rfl dX6_part_5 ?_
    refine lv_goto (tgt := 30) hx hb dX6_part_8 (by decide) ?_
    obtain rfl := Option.some.inj hf
    exact x_lret C hR hS dX6_part_30 ⟨rfl, rfl⟩
theorem hdV_X6_image : yX6_image.cls = RX6 ∧ yX6_image.cls ≠ "java/lang/invoke/MethodHandle" ∧ yX6_image.cls ≠ "java/lang/invoke/VarHandle" ∧ (parseMethodDescriptor yX6_image.desc).map (fun d => d.parameters.length) = some 1 := by decide +kernel
def f_X6_image_19 : Nat → Int32 → Int32 → St → Option (Int32 × St)
  | 0, _, _, _ => none
  | n + 1, x1, x2, σ => (if 122 ≤ x2 then gd (x1 < 0 ∨ 2 ≤ x1.toNatClampNeg) (some (1, (pA σ 78 x1.toNatClampNeg 1))) else gd (x2 < 0 ∨ 122 ≤ x2.toNatClampNeg) (gd (((122 * x1) + x2) < 0 ∨ 244 ≤ ((122 * x1) + x2).toNatClampNeg) ((f_X6_image_19 n) x1 (x2 + 1) (pA σ 77 (((122 * x1) + x2).toNatClampNeg) (sA σ 76 x2.toNatClampNeg)))))
def f_X6_image (x1 : Int32) (σ : St) : Option (Int32 × St) :=
  bd (f_X6_in x1.toInt64 0 1 σ) (fun r4 σ4 => (if r4 = 0 then bd (f_X6_bad (-2) σ4) (fun r13 σ13 => some (r13, σ13)) else f_X6_image_19 FU x1 0 σ4))
set_option maxHeartbeats 4000000 in
set_option maxRecDepth 100000 in
theorem w_X6_image_19 {p : Program} {l : Launch} {e : Env} {s : State} {m : MethodId} {args : Array Value} {below : List Frame} {meth : Method} {c : Code} {G : GG} (C : Cx p s m args meth c cX6_image RX6 wsX6_image (some .int) 3 G) {res : Int32 × St} : ∀ (n : Nat) (x1 : Int32) (x2 : Int32) (σ : St), f_X6_image_19 n x1 x2 σ = some res → WC p l e 1 s m args below meth c G (QI G res) 3 19 [(0, .ref (G.2.1 75)), (1, .int x1), (2, .int x2)] [] σ := by
  have hx := C.1
  have hb := C.2.1
  have inX6 : ∀ w ∈ u_ws RX6 TX6 22, w ∈ wsX6_image := fun w h => List.mem_cons_of_mem _ (List.mem_append_right _ h)
  intro n
  induction n with
  | zero => intro x1 x2 σ hf; cases hf
  | succ n hrc19 =>
    intro x1 x2 σ hf _ _ _ hR hS hl
    unfold f_X6_image_19 at hf
    refine lv_iload_n hx hb dX6_image_19 rfl (lv_at hl 2 rfl) ?_
    refine lv_bipush (v := 122) hx hb dX6_image_20 (by decide) ?_
    refine lv_icmp_ge (tgt := 48) hx hb dX6_image_22 (by decide) (fun c_22 => ?_) (fun c_22 => ?_)
    · replace hf := (if_pos c_22).symm.trans hf
      refine lv_aload_n hx hb dX6_image_48 rfl (lv_at hl 0 rfl) ?_
      refine x_get C hR inX6 75 (by decide) (cz5 rfl) rfl 2 (by decide) 3 rfl (.ref (G.2.1 78)) rfl dX6_image_49 ?_
      refine lv_iload_n hx hb dX6_image_52 rfl (lv_at hl 1 rfl) ?_
      refine lv_iconst (v := 1) hx hb dX6_image_53 (by decide) ?_
      obtain ⟨z_54, hf⟩ := gd_some hf
      refine x_zast C hR hS 78 rfl z_54 (n := x1.toNatClampNeg) rfl rfl dX6_image_54 (fun H locs hR hS => ?_)
      refine lv_iconst (v := 1) hx hb dX6_image_55 (by decide) ?_
      obtain rfl := Option.some.inj hf
      exact x_iret C hR hS dX6_image_56 ⟨rfl, rfl⟩
    · replace hf := (if_neg c_22).symm.trans hf
      refine lv_aload_n hx hb dX6_image_25 rfl (lv_at hl 0 rfl) ?_
      refine x_get C hR inX6 75 (by decide) (cz5 rfl) rfl 1 (by decide) 1 rfl (.ref (G.2.1 77)) rfl dX6_image_26 ?_
      refine lv_bipush (v := 122) hx hb dX6_image_29 (by decide) ?_
      refine lv_iload_n hx hb dX6_image_31 rfl (lv_at hl 1 rfl) ?_
      refine lv_imul hx hb dX6_image_32 ?_
      refine lv_iload_n hx hb dX6_image_33 rfl (lv_at hl 2 rfl) ?_
      refine lv_iadd hx hb dX6_image_34 ?_
      refine lv_aload_n hx hb dX6_image_35 rfl (lv_at hl 0 rfl) ?_
      refine x_get C hR inX6 75 (by decide) (cz5 rfl) rfl 0 (by decide) 2 rfl (.ref (G.2.1 76)) rfl dX6_image_36 ?_
      refine lv_iload_n hx hb dX6_image_39 rfl (lv_at hl 2 rfl) ?_
      obtain ⟨z_40, hf⟩ := gd_some hf
      refine x_iald C hR 76 rfl z_40 (n := x2.toNatClampNeg) rfl (sA σ 76 x2.toNatClampNeg) rfl dX6_image_40 ?_
      obtain ⟨z_41, hf⟩ := gd_some hf
      refine x_iast C hR hS 77 rfl z_41 (n := ((122 * x1) + x2).toNatClampNeg) rfl dX6_image_41 (fun H locs hR hS => ?_)
      refine lv_iinc (v := x2 + 1) (lv' := [(2, .int (x2 + 1)), (0, .ref (G.2.1 75)), (1, .int x1)]) hx hb dX6_image_42 hl (k := 2) rfl rfl (by decide) rfl (fun ls hl => ?_)
      refine lv_goto (tgt := 19) hx hb dX6_image_45 (by decide) ?_
      exact hrc19 x1 (x2 + 1) _ hf _ _ _ hR hS (lv_sub hl [1, 2, 0] rfl)
set_option maxHeartbeats 4000000 in
set_option maxRecDepth 100000 in
theorem c_X6_image (l : Launch) (G : GG) (x1 : Int32) (σ : St) (res : Int32 × St) (hf : f_X6_image x1 σ = some res) : CI l yX6_image wsX6_image 1 [.ref (G.2.1 75), .int x1] G σ (fun r u => r = res.1 ∧ u = res.2) := by
  refine x_ent (ret := (some .int)) cX6_image 3 (by decide) rfl (Nat.le_of_ble_eq_true rfl) ?_
  intro p e s m below meth c ls C hR hS hl
  have C : Cx p s m [.ref (G.2.1 75), .int x1].toArray meth c cX6_image RX6 wsX6_image (some .int) 3 G := C
  have hx := C.1
  have hb := C.2.1
  have hl : lv_has ls 3 [(0, .ref (G.2.1 75)), (1, .int x1)] := hl
  have inX6 : ∀ w ∈ u_ws RX6 TX6 22, w ∈ wsX6_image := fun w h => List.mem_cons_of_mem _ (List.mem_append_right _ h)
  unfold f_X6_image at hf
  refine lv_iload_n hx hb dX6_image_0 rfl (lv_at hl 1 rfl) ?_
  refine lv_i2l (v := x1.toInt64) hx hb dX6_image_1 rfl ?_
  refine lv_lconst (v := 0) hx hb dX6_image_2 (by decide) ?_
  refine lv_lconst (v := 1) hx hb dX6_image_3 (by decide) ?_
  obtain ⟨r4_, σ4_, hc_4, hf⟩ := bd_some hf
  refine x_csI C hl.1 hR hS (c_X6_in l G x1.toInt64 0 1 σ _ hc_4) gX6_image_X6_in rfl hdS_X6_in ⟨Nat.le_of_ble_eq_true rfl, Nat.le_of_ble_eq_true rfl⟩ rfl (As := [.long x1.toInt64, .long 0, .long 1]) (rest := []) rfl (Nat.le_of_ble_eq_true rfl) ⟨Nat.le_of_ble_eq_true rfl, Nat.le_of_ble_eq_true rfl⟩ dX6_image_4 (fun r4 σ4 H locs hq_4 hR hS => ?_)
  obtain ⟨rfl, rfl⟩ := hq_4
  refine lv_if_ne (tgt := 17) hx hb dX6_image_7 (by decide) (fun c_7 => ?_) (fun c_7 => ?_)
  · replace hf := (if_neg c_7).symm.trans hf
    refine lv_iconst (v := 0) hx hb dX6_image_17 (by decide) ?_
    refine lv_istore_n (lv' := [(2, .int 0), (0, .ref (G.2.1 75)), (1, .int x1)]) hx hb dX6_image_18 rfl hl (by decide) rfl (fun ls hl => ?_)
    exact w_X6_image_19 C  FU x1 0 _ hf _ _ _ hR hS (lv_sub hl [1, 2, 0] rfl)
  · replace hf := (if_pos c_7).symm.trans hf
    refine lv_aload_n hx hb dX6_image_10 rfl (lv_at hl 0 rfl) ?_
    refine lv_bipush (v := (-2)) hx hb dX6_image_11 (by decide) ?_
    obtain ⟨r13_, σ13_, hc_13, hf⟩ := bd_some hf
    refine x_cvI C hl.1 hR hS (c_X6_bad l G (-2) σ4 _ hc_13) gX6_image_X6_bad rfl hdV_X6_bad ⟨Nat.le_of_ble_eq_true rfl, Nat.le_of_ble_eq_true rfl⟩ (by decide) (cz5 rfl) rfl rfl (As := [.int (-2)]) (rest := []) rfl (Nat.le_of_ble_eq_true rfl) ⟨Nat.le_of_ble_eq_true rfl, Nat.le_of_ble_eq_true rfl⟩ dX6_image_13 (fun r13 σ13 H locs hq_13 hR hS => ?_)
    obtain ⟨rfl, rfl⟩ := hq_13
    obtain rfl := Option.some.inj hf
    exact x_iret C hR hS dX6_image_16 ⟨rfl, rfl⟩
theorem hdV_X6_from : yX6_from.cls = RX6 ∧ yX6_from.cls ≠ "java/lang/invoke/MethodHandle" ∧ yX6_from.cls ≠ "java/lang/invoke/VarHandle" ∧ (parseMethodDescriptor yX6_from.desc).map (fun d => d.parameters.length) = some 1 := by decide +kernel
def f_X6_from_33 : Nat → Int32 → Int32 → St → Option (Int32 × St)
  | 0, _, _, _ => none
  | n + 1, x1, x2, σ => (if 122 ≤ x2 then some (1, σ) else gd (((122 * x1) + x2) < 0 ∨ 244 ≤ ((122 * x1) + x2).toNatClampNeg) (gd (x2 < 0 ∨ 122 ≤ x2.toNatClampNeg) ((f_X6_from_33 n) x1 (x2 + 1) (pA σ 76 x2.toNatClampNeg (sA σ 77 (((122 * x1) + x2).toNatClampNeg))))))
def f_X6_from (x1 : Int32) (σ : St) : Option (Int32 × St) :=
  bd (f_X6_in x1.toInt64 0 1 σ) (fun r4 σ4 => (if r4 = 0 then bd (f_X6_bad (-2) σ4) (fun r13 σ13 => some (r13, σ13)) else gd (x1 < 0 ∨ 2 ≤ x1.toNatClampNeg) ((if (sA σ4 78 x1.toNatClampNeg) = 0 then bd (f_X6_no σ4) (fun r27 σ27 => some (r27, σ27)) else f_X6_from_33 FU x1 0 σ4))))
set_option maxHeartbeats 4000000 in
set_option maxRecDepth 100000 in
theorem w_X6_from_33 {p : Program} {l : Launch} {e : Env} {s : State} {m : MethodId} {args : Array Value} {below : List Frame} {meth : Method} {c : Code} {G : GG} (C : Cx p s m args meth c cX6_from RX6 wsX6_from (some .int) 3 G) {res : Int32 × St} : ∀ (n : Nat) (x1 : Int32) (x2 : Int32) (σ : St), f_X6_from_33 n x1 x2 σ = some res → WC p l e 1 s m args below meth c G (QI G res) 3 33 [(0, .ref (G.2.1 75)), (1, .int x1), (2, .int x2)] [] σ := by
  have hx := C.1
  have hb := C.2.1
  have inX6 : ∀ w ∈ u_ws RX6 TX6 22, w ∈ wsX6_from := fun w h => List.mem_cons_of_mem _ (List.mem_append_right _ h)
  intro n
  induction n with
  | zero => intro x1 x2 σ hf; cases hf
  | succ n hrc33 =>
    intro x1 x2 σ hf _ _ _ hR hS hl
    unfold f_X6_from_33 at hf
    refine lv_iload_n hx hb dX6_from_33 rfl (lv_at hl 2 rfl) ?_
    refine lv_bipush (v := 122) hx hb dX6_from_34 (by decide) ?_
    refine lv_icmp_ge (tgt := 62) hx hb dX6_from_36 (by decide) (fun c_36 => ?_) (fun c_36 => ?_)
    · replace hf := (if_pos c_36).symm.trans hf
      refine lv_iconst (v := 1) hx hb dX6_from_62 (by decide) ?_
      obtain rfl := Option.some.inj hf
      exact x_iret C hR hS dX6_from_63 ⟨rfl, rfl⟩
    · replace hf := (if_neg c_36).symm.trans hf
      refine lv_aload_n hx hb dX6_from_39 rfl (lv_at hl 0 rfl) ?_
      refine x_get C hR inX6 75 (by decide) (cz5 rfl) rfl 0 (by decide) 2 rfl (.ref (G.2.1 76)) rfl dX6_from_40 ?_
      refine lv_iload_n hx hb dX6_from_43 rfl (lv_at hl 2 rfl) ?_
      refine lv_aload_n hx hb dX6_from_44 rfl (lv_at hl 0 rfl) ?_
      refine x_get C hR inX6 75 (by decide) (cz5 rfl) rfl 1 (by decide) 3 rfl (.ref (G.2.1 77)) rfl dX6_from_45 ?_
      refine lv_bipush (v := 122) hx hb dX6_from_48 (by decide) ?_
      refine lv_iload_n hx hb dX6_from_50 rfl (lv_at hl 1 rfl) ?_
      refine lv_imul hx hb dX6_from_51 ?_
      refine lv_iload_n hx hb dX6_from_52 rfl (lv_at hl 2 rfl) ?_
      refine lv_iadd hx hb dX6_from_53 ?_
      obtain ⟨z_54, hf⟩ := gd_some hf
      refine x_iald C hR 77 rfl z_54 (n := ((122 * x1) + x2).toNatClampNeg) rfl (sA σ 77 (((122 * x1) + x2).toNatClampNeg)) rfl dX6_from_54 ?_
      obtain ⟨z_55, hf⟩ := gd_some hf
      refine x_iast C hR hS 76 rfl z_55 (n := x2.toNatClampNeg) rfl dX6_from_55 (fun H locs hR hS => ?_)
      refine lv_iinc (v := x2 + 1) (lv' := [(2, .int (x2 + 1)), (0, .ref (G.2.1 75)), (1, .int x1)]) hx hb dX6_from_56 hl (k := 2) rfl rfl (by decide) rfl (fun ls hl => ?_)
      refine lv_goto (tgt := 33) hx hb dX6_from_59 (by decide) ?_
      exact hrc33 x1 (x2 + 1) _ hf _ _ _ hR hS (lv_sub hl [1, 2, 0] rfl)
set_option maxHeartbeats 4000000 in
set_option maxRecDepth 100000 in
theorem c_X6_from (l : Launch) (G : GG) (x1 : Int32) (σ : St) (res : Int32 × St) (hf : f_X6_from x1 σ = some res) : CI l yX6_from wsX6_from 1 [.ref (G.2.1 75), .int x1] G σ (fun r u => r = res.1 ∧ u = res.2) := by
  refine x_ent (ret := (some .int)) cX6_from 3 (by decide) rfl (Nat.le_of_ble_eq_true rfl) ?_
  intro p e s m below meth c ls C hR hS hl
  have C : Cx p s m [.ref (G.2.1 75), .int x1].toArray meth c cX6_from RX6 wsX6_from (some .int) 3 G := C
  have hx := C.1
  have hb := C.2.1
  have hl : lv_has ls 3 [(0, .ref (G.2.1 75)), (1, .int x1)] := hl
  have inX6 : ∀ w ∈ u_ws RX6 TX6 22, w ∈ wsX6_from := fun w h => List.mem_cons_of_mem _ (List.mem_append_right _ h)
  unfold f_X6_from at hf
  refine lv_iload_n hx hb dX6_from_0 rfl (lv_at hl 1 rfl) ?_
  refine lv_i2l (v := x1.toInt64) hx hb dX6_from_1 rfl ?_
  refine lv_lconst (v := 0) hx hb dX6_from_2 (by decide) ?_
  refine lv_lconst (v := 1) hx hb dX6_from_3 (by decide) ?_
  obtain ⟨r4_, σ4_, hc_4, hf⟩ := bd_some hf
  refine x_csI C hl.1 hR hS (c_X6_in l G x1.toInt64 0 1 σ _ hc_4) gX6_from_X6_in rfl hdS_X6_in ⟨Nat.le_of_ble_eq_true rfl, Nat.le_of_ble_eq_true rfl⟩ rfl (As := [.long x1.toInt64, .long 0, .long 1]) (rest := []) rfl (Nat.le_of_ble_eq_true rfl) ⟨Nat.le_of_ble_eq_true rfl, Nat.le_of_ble_eq_true rfl⟩ dX6_from_4 (fun r4 σ4 H locs hq_4 hR hS => ?_)
  obtain ⟨rfl, rfl⟩ := hq_4
  refine lv_if_ne (tgt := 17) hx hb dX6_from_7 (by decide) (fun c_7 => ?_) (fun c_7 => ?_)
  · replace hf := (if_neg c_7).symm.trans hf
    refine lv_aload_n hx hb dX6_from_17 rfl (lv_at hl 0 rfl) ?_
    refine x_get C hR inX6 75 (by decide) (cz5 rfl) rfl 2 (by decide) 1 rfl (.ref (G.2.1 78)) rfl dX6_from_18 ?_
    refine lv_iload_n hx hb dX6_from_21 rfl (lv_at hl 1 rfl) ?_
    obtain ⟨z_22, hf⟩ := gd_some hf
    refine x_zald C hR 78 rfl z_22 (n := x1.toNatClampNeg) rfl (sA σ4 78 x1.toNatClampNeg) rfl dX6_from_22 ?_
    refine lv_if_ne (tgt := 31) hx hb dX6_from_23 (by decide) (fun c_23 => ?_) (fun c_23 => ?_)
    · replace hf := (if_neg c_23).symm.trans hf
      refine lv_iconst (v := 0) hx hb dX6_from_31 (by decide) ?_
      refine lv_istore_n (lv' := [(2, .int 0), (0, .ref (G.2.1 75)), (1, .int x1)]) hx hb dX6_from_32 rfl hl (by decide) rfl (fun ls hl => ?_)
      exact w_X6_from_33 C  FU x1 0 _ hf _ _ _ hR hS (lv_sub hl [1, 2, 0] rfl)
    · replace hf := (if_pos c_23).symm.trans hf
      refine lv_aload_n hx hb dX6_from_26 rfl (lv_at hl 0 rfl) ?_
      obtain ⟨r27_, σ27_, hc_27, hf⟩ := bd_some hf
      refine x_cvI C hl.1 hR hS (c_X6_no l G σ4 _ hc_27) gX6_from_X6_no rfl hdV_X6_no ⟨Nat.le_of_ble_eq_true rfl, Nat.le_of_ble_eq_true rfl⟩ (by decide) (cz5 rfl) rfl rfl (As := []) (rest := []) rfl (Nat.le_of_ble_eq_true rfl) ⟨Nat.le_of_ble_eq_true rfl, Nat.le_of_ble_eq_true rfl⟩ dX6_from_27 (fun r27 σ27 H locs hq_27 hR hS => ?_)
      obtain ⟨rfl, rfl⟩ := hq_27
      obtain rfl := Option.some.inj hf
      exact x_iret C hR hS dX6_from_30 ⟨rfl, rfl⟩
  · replace hf := (if_pos c_7).symm.trans hf
    refine lv_aload_n hx hb dX6_from_10 rfl (lv_at hl 0 rfl) ?_
    refine lv_bipush (v := (-2)) hx hb dX6_from_11 (by decide) ?_
    obtain ⟨r13_, σ13_, hc_13, hf⟩ := bd_some hf
    refine x_cvI C hl.1 hR hS (c_X6_bad l G (-2) σ4 _ hc_13) gX6_from_X6_bad rfl hdV_X6_bad ⟨Nat.le_of_ble_eq_true rfl, Nat.le_of_ble_eq_true rfl⟩ (by decide) (cz5 rfl) rfl rfl (As := [.int (-2)]) (rest := []) rfl (Nat.le_of_ble_eq_true rfl) ⟨Nat.le_of_ble_eq_true rfl, Nat.le_of_ble_eq_true rfl⟩ dX6_from_13 (fun r13 σ13 H locs hq_13 hR hS => ?_)
    obtain ⟨rfl, rfl⟩ := hq_13
    obtain rfl := Option.some.inj hf
    exact x_iret C hR hS dX6_from_16 ⟨rfl, rfl⟩
theorem hdV_X6_status : yX6_status.cls = RX6 ∧ yX6_status.cls ≠ "java/lang/invoke/MethodHandle" ∧ yX6_status.cls ≠ "java/lang/invoke/VarHandle" ∧ (parseMethodDescriptor yX6_status.desc).map (fun d => d.parameters.length) = some 1 := by decide +kernel
def f_X6_status (x1 : Int32) (σ : St) : Option (Int32 × St) :=
  bd (f_X6_in x1.toInt64 0 2 σ) (fun r6 σ6 => (if r6 = 0 then bd (f_X6_bad (-1) σ6) (fun r23 σ23 => some (r23, σ23)) else gd (x1 < 0 ∨ 3 ≤ x1.toNatClampNeg) (some (sA σ6 79 x1.toNatClampNeg, σ6))))
set_option maxHeartbeats 4000000 in
set_option maxRecDepth 100000 in
theorem c_X6_status (l : Launch) (G : GG) (x1 : Int32) (σ : St) (res : Int32 × St) (hf : f_X6_status x1 σ = some res) : CI l yX6_status wsX6_status 1 [.ref (G.2.1 75), .int x1] G σ (fun r u => r = res.1 ∧ u = res.2) := by
  refine x_ent (ret := (some .int)) cX6_status 2 (by decide) rfl (Nat.le_of_ble_eq_true rfl) ?_
  intro p e s m below meth c ls C hR hS hl
  have C : Cx p s m [.ref (G.2.1 75), .int x1].toArray meth c cX6_status RX6 wsX6_status (some .int) 2 G := C
  have hx := C.1
  have hb := C.2.1
  have hl : lv_has ls 2 [(0, .ref (G.2.1 75)), (1, .int x1)] := hl
  have inX6 : ∀ w ∈ u_ws RX6 TX6 22, w ∈ wsX6_status := fun w h => List.mem_cons_of_mem _ (List.mem_append_right _ h)
  unfold f_X6_status at hf
  refine lv_iload_n hx hb dX6_status_0 rfl (lv_at hl 1 rfl) ?_
  refine lv_i2l (v := x1.toInt64) hx hb dX6_status_1 rfl ?_
  refine lv_lconst (v := 0) hx hb dX6_status_2 (by decide) ?_
  refine lv_ldc2 (v := 2) hx hb C.2.2.2.2.1 (C.2.2.2.2.2.1 _ (List.mem_of_getElem? (i := 1) rfl)) dX6_status_3 ?_
  obtain ⟨r6_, σ6_, hc_6, hf⟩ := bd_some hf
  refine x_csI C hl.1 hR hS (c_X6_in l G x1.toInt64 0 2 σ _ hc_6) gX6_status_X6_in rfl hdS_X6_in ⟨Nat.le_of_ble_eq_true rfl, Nat.le_of_ble_eq_true rfl⟩ rfl (As := [.long x1.toInt64, .long 0, .long 2]) (rest := []) rfl (Nat.le_of_ble_eq_true rfl) ⟨Nat.le_of_ble_eq_true rfl, Nat.le_of_ble_eq_true rfl⟩ dX6_status_6 (fun r6 σ6 H locs hq_6 hR hS => ?_)
  obtain ⟨rfl, rfl⟩ := hq_6
  refine lv_if_eq (tgt := 21) hx hb dX6_status_9 (by decide) (fun c_9 => ?_) (fun c_9 => ?_)
  · replace hf := (if_pos c_9).symm.trans hf
    refine lv_aload_n hx hb dX6_status_21 rfl (lv_at hl 0 rfl) ?_
    refine lv_iconst (v := (-1)) hx hb dX6_status_22 (by decide) ?_
    obtain ⟨r23_, σ23_, hc_23, hf⟩ := bd_some hf
    refine x_cvI C hl.1 hR hS (c_X6_bad l G (-1) σ6 _ hc_23) gX6_status_X6_bad rfl hdV_X6_bad ⟨Nat.le_of_ble_eq_true rfl, Nat.le_of_ble_eq_true rfl⟩ (by decide) (cz5 rfl) rfl rfl (As := [.int (-1)]) (rest := []) rfl (Nat.le_of_ble_eq_true rfl) ⟨Nat.le_of_ble_eq_true rfl, Nat.le_of_ble_eq_true rfl⟩ dX6_status_23 (fun r23 σ23 H locs hq_23 hR hS => ?_)
    obtain ⟨rfl, rfl⟩ := hq_23
    obtain rfl := Option.some.inj hf
    exact x_iret C hR hS dX6_status_26 ⟨rfl, rfl⟩
  · replace hf := (if_neg c_9).symm.trans hf
    refine lv_aload_n hx hb dX6_status_12 rfl (lv_at hl 0 rfl) ?_
    refine x_get C hR inX6 75 (by decide) (cz5 rfl) rfl 3 (by decide) 2 rfl (.ref (G.2.1 79)) rfl dX6_status_13 ?_
    refine lv_iload_n hx hb dX6_status_16 rfl (lv_at hl 1 rfl) ?_
    obtain ⟨z_17, hf⟩ := gd_some hf
    refine x_iald C hR 79 rfl z_17 (n := x1.toNatClampNeg) rfl (sA σ6 79 x1.toNatClampNeg) rfl dX6_status_17 ?_
    refine lv_goto (tgt := 26) hx hb dX6_status_18 (by decide) ?_
    obtain rfl := Option.some.inj hf
    exact x_iret C hR hS dX6_status_26 ⟨rfl, rfl⟩
theorem hdV_X6_counted : yX6_counted.cls = RX6 ∧ yX6_counted.cls ≠ "java/lang/invoke/MethodHandle" ∧ yX6_counted.cls ≠ "java/lang/invoke/VarHandle" ∧ (parseMethodDescriptor yX6_counted.desc).map (fun d => d.parameters.length) = some 1 := by decide +kernel
def f_X6_counted (x1 : Int32) (σ : St) : Option (Int32 × St) :=
  (if 6 ≤ x1 then some (sI σ 75 15, σ) else gd (x1 < 0 ∨ 122 ≤ x1.toNatClampNeg) (some (sA σ 76 x1.toNatClampNeg, σ)))
set_option maxHeartbeats 4000000 in
set_option maxRecDepth 100000 in
theorem c_X6_counted (l : Launch) (G : GG) (x1 : Int32) (σ : St) (res : Int32 × St) (hf : f_X6_counted x1 σ = some res) : CI l yX6_counted wsX6_counted 0 [.ref (G.2.1 75), .int x1] G σ (fun r u => r = res.1 ∧ u = res.2) := by
  refine x_ent (ret := (some .int)) cX6_counted 2 (by decide) rfl (Nat.le_of_ble_eq_true rfl) ?_
  intro p e s m below meth c ls C hR hS hl
  have C : Cx p s m [.ref (G.2.1 75), .int x1].toArray meth c cX6_counted RX6 wsX6_counted (some .int) 2 G := C
  have hx := C.1
  have hb := C.2.1
  have hl : lv_has ls 2 [(0, .ref (G.2.1 75)), (1, .int x1)] := hl
  have inX6 : ∀ w ∈ u_ws RX6 TX6 22, w ∈ wsX6_counted := fun w h => List.mem_cons_of_mem _ (List.mem_append_right _ h)
  unfold f_X6_counted at hf
  refine lv_iload_n hx hb dX6_counted_0 rfl (lv_at hl 1 rfl) ?_
  refine lv_bipush (v := 6) hx hb dX6_counted_1 (by decide) ?_
  refine lv_icmp_ge (tgt := 15) hx hb dX6_counted_3 (by decide) (fun c_3 => ?_) (fun c_3 => ?_)
  · replace hf := (if_pos c_3).symm.trans hf
    refine lv_aload_n hx hb dX6_counted_15 rfl (lv_at hl 0 rfl) ?_
    refine x_get C hR inX6 75 (by decide) (cz5 rfl) rfl 15 (by decide) 2 rfl (.int (sI σ 75 15)) rfl dX6_counted_16 ?_
    obtain rfl := Option.some.inj hf
    exact x_iret C hR hS dX6_counted_19 ⟨rfl, rfl⟩
  · replace hf := (if_neg c_3).symm.trans hf
    refine lv_aload_n hx hb dX6_counted_6 rfl (lv_at hl 0 rfl) ?_
    refine x_get C hR inX6 75 (by decide) (cz5 rfl) rfl 0 (by decide) 1 rfl (.ref (G.2.1 76)) rfl dX6_counted_7 ?_
    refine lv_iload_n hx hb dX6_counted_10 rfl (lv_at hl 1 rfl) ?_
    obtain ⟨z_11, hf⟩ := gd_some hf
    refine x_iald C hR 76 rfl z_11 (n := x1.toNatClampNeg) rfl (sA σ 76 x1.toNatClampNeg) rfl dX6_counted_11 ?_
    refine lv_goto (tgt := 19) hx hb dX6_counted_12 (by decide) ?_
    obtain rfl := Option.some.inj hf
    exact x_iret C hR hS dX6_counted_19 ⟨rfl, rfl⟩
theorem hdV_X6_count : yX6_count.cls = RX6 ∧ yX6_count.cls ≠ "java/lang/invoke/MethodHandle" ∧ yX6_count.cls ≠ "java/lang/invoke/VarHandle" ∧ (parseMethodDescriptor yX6_count.desc).map (fun d => d.parameters.length) = some 1 := by decide +kernel
def f_X6_count (x1 : Int32) (σ : St) : Option (Int32 × St) :=
  bd (f_X6_in x1.toInt64 0 6 σ) (fun r6 σ6 => (if r6 = 0 then bd (f_X6_bad (-2) σ6) (fun r23 σ23 => some (r23, σ23)) else bd (f_X6_counted x1 σ6) (fun r14 σ14 => some (r14, σ14))))
set_option maxHeartbeats 4000000 in
set_option maxRecDepth 100000 in
theorem c_X6_count (l : Launch) (G : GG) (x1 : Int32) (σ : St) (res : Int32 × St) (hf : f_X6_count x1 σ = some res) : CI l yX6_count wsX6_count 1 [.ref (G.2.1 75), .int x1] G σ (fun r u => r = res.1 ∧ u = res.2) := by
  refine x_ent (ret := (some .int)) cX6_count 2 (by decide) rfl (Nat.le_of_ble_eq_true rfl) ?_
  intro p e s m below meth c ls C hR hS hl
  have C : Cx p s m [.ref (G.2.1 75), .int x1].toArray meth c cX6_count RX6 wsX6_count (some .int) 2 G := C
  have hx := C.1
  have hb := C.2.1
  have hl : lv_has ls 2 [(0, .ref (G.2.1 75)), (1, .int x1)] := hl
  unfold f_X6_count at hf
  refine lv_iload_n hx hb dX6_count_0 rfl (lv_at hl 1 rfl) ?_
  refine lv_i2l (v := x1.toInt64) hx hb dX6_count_1 rfl ?_
  refine lv_lconst (v := 0) hx hb dX6_count_2 (by decide) ?_
  refine lv_ldc2 (v := 6) hx hb C.2.2.2.2.1 (C.2.2.2.2.2.1 _ (List.mem_of_getElem? (i := 1) rfl)) dX6_count_3 ?_
  obtain ⟨r6_, σ6_, hc_6, hf⟩ := bd_some hf
  refine x_csI C hl.1 hR hS (c_X6_in l G x1.toInt64 0 6 σ _ hc_6) gX6_count_X6_in rfl hdS_X6_in ⟨Nat.le_of_ble_eq_true rfl, Nat.le_of_ble_eq_true rfl⟩ rfl (As := [.long x1.toInt64, .long 0, .long 6]) (rest := []) rfl (Nat.le_of_ble_eq_true rfl) ⟨Nat.le_of_ble_eq_true rfl, Nat.le_of_ble_eq_true rfl⟩ dX6_count_6 (fun r6 σ6 H locs hq_6 hR hS => ?_)
  obtain ⟨rfl, rfl⟩ := hq_6
  refine lv_if_eq (tgt := 20) hx hb dX6_count_9 (by decide) (fun c_9 => ?_) (fun c_9 => ?_)
  · replace hf := (if_pos c_9).symm.trans hf
    refine lv_aload_n hx hb dX6_count_20 rfl (lv_at hl 0 rfl) ?_
    refine lv_bipush (v := (-2)) hx hb dX6_count_21 (by decide) ?_
    obtain ⟨r23_, σ23_, hc_23, hf⟩ := bd_some hf
    refine x_cvI C hl.1 hR hS (c_X6_bad l G (-2) σ6 _ hc_23) gX6_count_X6_bad rfl hdV_X6_bad ⟨Nat.le_of_ble_eq_true rfl, Nat.le_of_ble_eq_true rfl⟩ (by decide) (cz5 rfl) rfl rfl (As := [.int (-2)]) (rest := []) rfl (Nat.le_of_ble_eq_true rfl) ⟨Nat.le_of_ble_eq_true rfl, Nat.le_of_ble_eq_true rfl⟩ dX6_count_23 (fun r23 σ23 H locs hq_23 hR hS => ?_)
    obtain ⟨rfl, rfl⟩ := hq_23
    obtain rfl := Option.some.inj hf
    exact x_iret C hR hS dX6_count_26 ⟨rfl, rfl⟩
  · replace hf := (if_neg c_9).symm.trans hf
    refine lv_aload_n hx hb dX6_count_12 rfl (lv_at hl 0 rfl) ?_
    refine lv_iload_n hx hb dX6_count_13 rfl (lv_at hl 1 rfl) ?_
    obtain ⟨r14_, σ14_, hc_14, hf⟩ := bd_some hf
    refine x_cvI C hl.1 hR hS (c_X6_counted l G x1 σ6 _ hc_14) gX6_count_X6_counted rfl hdV_X6_counted ⟨Nat.le_of_ble_eq_true rfl, Nat.le_of_ble_eq_true rfl⟩ (by decide) (cz5 rfl) rfl rfl (As := [.int x1]) (rest := []) rfl (Nat.le_of_ble_eq_true rfl) ⟨Nat.le_of_ble_eq_true rfl, Nat.le_of_ble_eq_true rfl⟩ dX6_count_14 (fun r14 σ14 H locs hq_14 hR hS => ?_)
    obtain ⟨rfl, rfl⟩ := hq_14
    refine lv_goto (tgt := 26) hx hb dX6_count_17 (by decide) ?_
    obtain rfl := Option.some.inj hf
    exact x_iret C hR hS dX6_count_26 ⟨rfl, rfl⟩
theorem hdV_X6_sums : yX6_sums.cls = RX6 ∧ yX6_sums.cls ≠ "java/lang/invoke/MethodHandle" ∧ yX6_sums.cls ≠ "java/lang/invoke/VarHandle" ∧ (parseMethodDescriptor yX6_sums.desc).map (fun d => d.parameters.length) = some 3 := by decide +kernel
def f_X6_sums_6 : Nat → Int32 → Int32 → Int64 → Int32 → St → Option (Int64 × St)
  | 0, _, _, _, _, _ => none
  | n + 1, x3, x4, x5, x7, σ => (if x4 ≤ x7 then some (x5, σ) else gd ((x3 + x7) < 0 ∨ 122 ≤ (x3 + x7).toNatClampNeg) ((f_X6_sums_6 n) x3 x4 ((31 * x5) + ((sA σ 76 ((x3 + x7).toNatClampNeg)).toInt64)) (x7 + 1) σ))
def f_X6_sums (x1 : Int64) (x3 : Int32) (x4 : Int32) (σ : St) : Option (Int64 × St) :=
  f_X6_sums_6 FU x3 x4 x1 0 σ
set_option maxHeartbeats 4000000 in
set_option maxRecDepth 100000 in
theorem w_X6_sums_6 {p : Program} {l : Launch} {e : Env} {s : State} {m : MethodId} {args : Array Value} {below : List Frame} {meth : Method} {c : Code} {G : GG} (C : Cx p s m args meth c cX6_sums RX6 wsX6_sums (some .long) 8 G) {res : Int64 × St} : ∀ (n : Nat) (x3 : Int32) (x4 : Int32) (x5 : Int64) (x7 : Int32) (σ : St), f_X6_sums_6 n x3 x4 x5 x7 σ = some res → WC p l e 0 s m args below meth c G (QL G res) 8 6 [(0, .ref (G.2.1 75)), (3, .int x3), (4, .int x4), (5, .long x5), (7, .int x7)] [] σ := by
  have hx := C.1
  have hb := C.2.1
  have inX6 : ∀ w ∈ u_ws RX6 TX6 22, w ∈ wsX6_sums := fun w h => List.mem_cons_of_mem _ (List.mem_append_right _ h)
  intro n
  induction n with
  | zero => intro x3 x4 x5 x7 σ hf; cases hf
  | succ n hrc6 =>
    intro x3 x4 x5 x7 σ hf _ _ _ hR hS hl
    unfold f_X6_sums_6 at hf
    refine lv_iload hx hb dX6_sums_6 (lv_at hl 4 rfl) ?_
    refine lv_iload hx hb dX6_sums_8 (lv_at hl 2 rfl) ?_
    refine lv_icmp_ge (tgt := 38) hx hb dX6_sums_10 (by decide) (fun c_10 => ?_) (fun c_10 => ?_)
    · replace hf := (if_pos c_10).symm.trans hf
      refine lv_lload hx hb dX6_sums_38 (lv_at hl 3 rfl) ?_
      obtain rfl := Option.some.inj hf
      exact x_lret C hR hS dX6_sums_40 ⟨rfl, rfl⟩
    · replace hf := (if_neg c_10).symm.trans hf
      refine lv_ldc2 (v := 31) hx hb C.2.2.2.2.1 (C.2.2.2.2.2.1 _ (List.mem_of_getElem? (i := 1) rfl)) dX6_sums_13 ?_
      refine lv_lload hx hb dX6_sums_16 (lv_at hl 3 rfl) ?_
      refine lv_lmul hx hb dX6_sums_18 ?_
      refine lv_aload_n hx hb dX6_sums_19 rfl (lv_at hl 0 rfl) ?_
      refine x_get C hR inX6 75 (by decide) (cz5 rfl) rfl 0 (by decide) 2 rfl (.ref (G.2.1 76)) rfl dX6_sums_20 ?_
      refine lv_iload_n hx hb dX6_sums_23 rfl (lv_at hl 1 rfl) ?_
      refine lv_iload hx hb dX6_sums_24 (lv_at hl 4 rfl) ?_
      refine lv_iadd hx hb dX6_sums_26 ?_
      obtain ⟨z_27, hf⟩ := gd_some hf
      refine x_iald C hR 76 rfl z_27 (n := (x3 + x7).toNatClampNeg) rfl (sA σ 76 ((x3 + x7).toNatClampNeg)) rfl dX6_sums_27 ?_
      refine lv_i2l (v := (sA σ 76 ((x3 + x7).toNatClampNeg)).toInt64) hx hb dX6_sums_28 rfl ?_
      refine lv_ladd hx hb dX6_sums_29 ?_
      refine lv_lstore (lv' := [(5, .long ((31 * x5) + ((sA σ 76 ((x3 + x7).toNatClampNeg)).toInt64))), (0, .ref (G.2.1 75)), (3, .int x3), (4, .int x4), (7, .int x7)]) hx hb dX6_sums_30 hl (by decide) rfl (fun ls hl => ?_)
      refine lv_iinc (v := x7 + 1) (lv' := [(7, .int (x7 + 1)), (5, .long ((31 * x5) + ((sA σ 76 ((x3 + x7).toNatClampNeg)).toInt64))), (0, .ref (G.2.1 75)), (3, .int x3), (4, .int x4)]) hx hb dX6_sums_32 hl (k := 4) rfl rfl (by decide) rfl (fun ls hl => ?_)
      refine lv_goto (tgt := 6) hx hb dX6_sums_35 (by decide) ?_
      exact hrc6 x3 x4 ((31 * x5) + ((sA σ 76 ((x3 + x7).toNatClampNeg)).toInt64)) (x7 + 1) _ hf _ _ _ hR hS (lv_sub hl [2, 3, 4, 1, 0] rfl)
set_option maxHeartbeats 4000000 in
set_option maxRecDepth 100000 in
theorem c_X6_sums (l : Launch) (G : GG) (x1 : Int64) (x3 : Int32) (x4 : Int32) (σ : St) (res : Int64 × St) (hf : f_X6_sums x1 x3 x4 σ = some res) : CL l yX6_sums wsX6_sums 0 [.ref (G.2.1 75), .long x1, .int x3, .int x4] G σ (fun r u => r = res.1 ∧ u = res.2) := by
  refine x_ent (ret := (some .long)) cX6_sums 8 (by decide) rfl (Nat.le_of_ble_eq_true rfl) ?_
  intro p e s m below meth c ls C hR hS hl
  have C : Cx p s m [.ref (G.2.1 75), .long x1, .int x3, .int x4].toArray meth c cX6_sums RX6 wsX6_sums (some .long) 8 G := C
  have hx := C.1
  have hb := C.2.1
  have hl : lv_has ls 8 [(0, .ref (G.2.1 75)), (1, .long x1), (3, .int x3), (4, .int x4)] := hl
  have inX6 : ∀ w ∈ u_ws RX6 TX6 22, w ∈ wsX6_sums := fun w h => List.mem_cons_of_mem _ (List.mem_append_right _ h)
  unfold f_X6_sums at hf
  refine lv_lload_n hx hb dX6_sums_0 rfl (lv_at hl 1 rfl) ?_
  refine lv_lstore (lv' := [(5, .long x1), (0, .ref (G.2.1 75)), (1, .long x1), (3, .int x3), (4, .int x4)]) hx hb dX6_sums_1 hl (by decide) rfl (fun ls hl => ?_)
  refine lv_iconst (v := 0) hx hb dX6_sums_3 (by decide) ?_
  refine lv_istore (lv' := [(7, .int 0), (5, .long x1), (0, .ref (G.2.1 75)), (1, .long x1), (3, .int x3), (4, .int x4)]) hx hb dX6_sums_4 hl (by decide) rfl (fun ls hl => ?_)
  exact w_X6_sums_6 C  FU x3 x4 x1 0 _ hf _ _ _ hR hS (lv_sub hl [2, 4, 5, 1, 0] rfl)
theorem hdV_X6_digest : yX6_digest.cls = RX6 ∧ yX6_digest.cls ≠ "java/lang/invoke/MethodHandle" ∧ yX6_digest.cls ≠ "java/lang/invoke/VarHandle" ∧ (parseMethodDescriptor yX6_digest.desc).map (fun d => d.parameters.length) = some 0 := by decide +kernel
def f_X6_digest_6 : Nat → Int64 → Int32 → St → Option (Int64 × St)
  | 0, _, _, _ => none
  | n + 1, x1, x3, σ => (if 7 ≤ x3 then bd (f_X6_locks σ) (fun r37 σ37 => bd (f_X6_sums x1 6 (3 * r37) σ37) (fun r41 σ41 => bd (f_X6_sums r41 30 (2 * (sA σ41 76 4)) σ41) (fun r57 σ57 => some ((31 * ((31 * r57) + (sL σ57 75 4))) + (sL σ57 75 5), σ57)))) else bd (f_X6_counted x3 σ) (fun r19 σ19 => (f_X6_digest_6 n) ((31 * x1) + r19.toInt64) (x3 + 1) σ19))
def f_X6_digest (σ : St) : Option (Int64 × St) :=
  f_X6_digest_6 FU 953 0 σ
set_option maxHeartbeats 4000000 in
set_option maxRecDepth 100000 in
theorem w_X6_digest_6 {p : Program} {l : Launch} {e : Env} {s : State} {m : MethodId} {args : Array Value} {below : List Frame} {meth : Method} {c : Code} {G : GG} (C : Cx p s m args meth c cX6_digest RX6 wsX6_digest (some .long) 4 G) {res : Int64 × St} : ∀ (n : Nat) (x1 : Int64) (x3 : Int32) (σ : St), f_X6_digest_6 n x1 x3 σ = some res → WC p l e 1 s m args below meth c G (QL G res) 4 6 [(0, .ref (G.2.1 75)), (1, .long x1), (3, .int x3)] [] σ := by
  have hx := C.1
  have hb := C.2.1
  have inX6 : ∀ w ∈ u_ws RX6 TX6 22, w ∈ wsX6_digest := fun w h => List.mem_cons_of_mem _ (List.mem_append_right _ h)
  intro n
  induction n with
  | zero => intro x1 x3 σ hf; cases hf
  | succ n hrc6 =>
    intro x1 x3 σ hf _ _ _ hR hS hl
    unfold f_X6_digest_6 at hf
    refine lv_iload_n hx hb dX6_digest_6 rfl (lv_at hl 2 rfl) ?_
    refine lv_bipush (v := 7) hx hb dX6_digest_7 (by decide) ?_
    refine lv_icmp_ge (tgt := 31) hx hb dX6_digest_9 (by decide) (fun c_9 => ?_) (fun c_9 => ?_)
    · replace hf := (if_pos c_9).symm.trans hf
      refine lv_aload_n hx hb dX6_digest_31 rfl (lv_at hl 0 rfl) ?_
      refine lv_lload_n hx hb dX6_digest_32 rfl (lv_at hl 1 rfl) ?_
      refine lv_bipush (v := 6) hx hb dX6_digest_33 (by decide) ?_
      refine lv_iconst (v := 3) hx hb dX6_digest_35 (by decide) ?_
      refine lv_aload_n hx hb dX6_digest_36 rfl (lv_at hl 0 rfl) ?_
      obtain ⟨r37_, σ37_, hc_37, hf⟩ := bd_some hf
      refine x_cvI C hl.1 hR hS (c_X6_locks l G σ _ hc_37) gX6_digest_X6_locks rfl hdV_X6_locks ⟨Nat.le_of_ble_eq_true rfl, Nat.le_of_ble_eq_true rfl⟩ (by decide) (cz5 rfl) rfl rfl (As := []) (rest := [.int 3, .int 6, .long x1, .ref (G.2.1 75)]) rfl (Nat.le_of_ble_eq_true rfl) ⟨Nat.le_of_ble_eq_true rfl, Nat.le_of_ble_eq_true rfl⟩ dX6_digest_37 (fun r37 σ37 H locs hq_37 hR hS => ?_)
      obtain ⟨rfl, rfl⟩ := hq_37
      refine lv_imul hx hb dX6_digest_40 ?_
      obtain ⟨r41_, σ41_, hc_41, hf⟩ := bd_some hf
      refine x_cvL C hl.1 hR hS (c_X6_sums l G x1 6 (3 * r37) σ37 _ hc_41) gX6_digest_X6_sums rfl hdV_X6_sums ⟨Nat.le_of_ble_eq_true rfl, Nat.le_of_ble_eq_true rfl⟩ (by decide) (cz5 rfl) rfl rfl (As := [.long x1, .int 6, .int (3 * r37)]) (rest := []) rfl (Nat.le_of_ble_eq_true rfl) ⟨Nat.le_of_ble_eq_true rfl, Nat.le_of_ble_eq_true rfl⟩ dX6_digest_41 (fun r41 σ41 H locs hq_41 hR hS => ?_)
      obtain ⟨rfl, rfl⟩ := hq_41
      refine lv_lstore_n (lv' := [(1, .long r41), (0, .ref (G.2.1 75)), (3, .int x3)]) hx hb dX6_digest_44 rfl hl (by decide) rfl (fun ls hl => ?_)
      refine lv_aload_n hx hb dX6_digest_45 rfl (lv_at hl 1 rfl) ?_
      refine lv_lload_n hx hb dX6_digest_46 rfl (lv_at hl 0 rfl) ?_
      refine lv_bipush (v := 30) hx hb dX6_digest_47 (by decide) ?_
      refine lv_iconst (v := 2) hx hb dX6_digest_49 (by decide) ?_
      refine lv_aload_n hx hb dX6_digest_50 rfl (lv_at hl 1 rfl) ?_
      refine x_get C hR inX6 75 (by decide) (cz5 rfl) rfl 0 (by decide) 3 rfl (.ref (G.2.1 76)) rfl dX6_digest_51 ?_
      refine lv_iconst (v := 4) hx hb dX6_digest_54 (by decide) ?_
      refine x_iald C hR 76 rfl (x_in rfl) (n := 4) rfl (sA σ41 76 4) rfl dX6_digest_55 ?_
      refine lv_imul hx hb dX6_digest_56 ?_
      obtain ⟨r57_, σ57_, hc_57, hf⟩ := bd_some hf
      refine x_cvL C hl.1 hR hS (c_X6_sums l G r41 30 (2 * (sA σ41 76 4)) σ41 _ hc_57) gX6_digest_X6_sums rfl hdV_X6_sums ⟨Nat.le_of_ble_eq_true rfl, Nat.le_of_ble_eq_true rfl⟩ (by decide) (cz5 rfl) rfl rfl (As := [.long r41, .int 30, .int (2 * (sA σ41 76 4))]) (rest := []) rfl (Nat.le_of_ble_eq_true rfl) ⟨Nat.le_of_ble_eq_true rfl, Nat.le_of_ble_eq_true rfl⟩ dX6_digest_57 (fun r57 σ57 H locs hq_57 hR hS => ?_)
      obtain ⟨rfl, rfl⟩ := hq_57
      refine lv_lstore_n (lv' := [(1, .long r57), (0, .ref (G.2.1 75)), (3, .int x3)]) hx hb dX6_digest_60 rfl hl (by decide) rfl (fun ls hl => ?_)
      refine lv_ldc2 (v := 31) hx hb C.2.2.2.2.1 (C.2.2.2.2.2.1 _ (List.mem_of_getElem? (i := 2) rfl)) dX6_digest_61 ?_
      refine lv_ldc2 (v := 31) hx hb C.2.2.2.2.1 (C.2.2.2.2.2.1 _ (List.mem_of_getElem? (i := 2) rfl)) dX6_digest_64 ?_
      refine lv_lload_n hx hb dX6_digest_67 rfl (lv_at hl 0 rfl) ?_
      refine lv_lmul hx hb dX6_digest_68 ?_
      refine lv_aload_n hx hb dX6_digest_69 rfl (lv_at hl 1 rfl) ?_
      refine x_get C hR inX6 75 (by decide) (cz5 rfl) rfl 4 (by decide) 4 rfl (.long (sL σ57 75 4)) rfl dX6_digest_70 ?_
      refine lv_ladd hx hb dX6_digest_73 ?_
      refine lv_lmul hx hb dX6_digest_74 ?_
      refine lv_aload_n hx hb dX6_digest_75 rfl (lv_at hl 1 rfl) ?_
      refine x_get C hR inX6 75 (by decide) (cz5 rfl) rfl 5 (by decide) 5 rfl (.long (sL σ57 75 5)) rfl dX6_digest_76 ?_
      refine lv_ladd hx hb dX6_digest_79 ?_
      obtain rfl := Option.some.inj hf
      exact x_lret C hR hS dX6_digest_80 ⟨rfl, rfl⟩
    · replace hf := (if_neg c_9).symm.trans hf
      refine lv_ldc2 (v := 31) hx hb C.2.2.2.2.1 (C.2.2.2.2.2.1 _ (List.mem_of_getElem? (i := 2) rfl)) dX6_digest_12 ?_
      refine lv_lload_n hx hb dX6_digest_15 rfl (lv_at hl 1 rfl) ?_
      refine lv_lmul hx hb dX6_digest_16 ?_
      refine lv_aload_n hx hb dX6_digest_17 rfl (lv_at hl 0 rfl) ?_
      refine lv_iload_n hx hb dX6_digest_18 rfl (lv_at hl 2 rfl) ?_
      obtain ⟨r19_, σ19_, hc_19, hf⟩ := bd_some hf
      refine x_cvI C hl.1 hR hS (c_X6_counted l G x3 σ _ hc_19) gX6_digest_X6_counted rfl hdV_X6_counted ⟨Nat.le_of_ble_eq_true rfl, Nat.le_of_ble_eq_true rfl⟩ (by decide) (cz5 rfl) rfl rfl (As := [.int x3]) (rest := [.long (31 * x1)]) rfl (Nat.le_of_ble_eq_true rfl) ⟨Nat.le_of_ble_eq_true rfl, Nat.le_of_ble_eq_true rfl⟩ dX6_digest_19 (fun r19 σ19 H locs hq_19 hR hS => ?_)
      obtain ⟨rfl, rfl⟩ := hq_19
      refine lv_i2l (v := r19.toInt64) hx hb dX6_digest_22 rfl ?_
      refine lv_ladd hx hb dX6_digest_23 ?_
      refine lv_lstore_n (lv' := [(1, .long ((31 * x1) + r19.toInt64)), (0, .ref (G.2.1 75)), (3, .int x3)]) hx hb dX6_digest_24 rfl hl (by decide) rfl (fun ls hl => ?_)
      refine lv_iinc (v := x3 + 1) (lv' := [(3, .int (x3 + 1)), (1, .long ((31 * x1) + r19.toInt64)), (0, .ref (G.2.1 75))]) hx hb dX6_digest_25 hl (k := 2) rfl rfl (by decide) rfl (fun ls hl => ?_)
      refine lv_goto (tgt := 6) hx hb dX6_digest_28 (by decide) ?_
      exact hrc6 ((31 * x1) + r19.toInt64) (x3 + 1) _ hf _ _ _ hR hS (lv_sub hl [2, 1, 0] rfl)
set_option maxHeartbeats 4000000 in
set_option maxRecDepth 100000 in
theorem c_X6_digest (l : Launch) (G : GG) (σ : St) (res : Int64 × St) (hf : f_X6_digest σ = some res) : CL l yX6_digest wsX6_digest 1 [.ref (G.2.1 75)] G σ (fun r u => r = res.1 ∧ u = res.2) := by
  refine x_ent (ret := (some .long)) cX6_digest 4 (by decide) rfl (Nat.le_of_ble_eq_true rfl) ?_
  intro p e s m below meth c ls C hR hS hl
  have C : Cx p s m [.ref (G.2.1 75)].toArray meth c cX6_digest RX6 wsX6_digest (some .long) 4 G := C
  have hx := C.1
  have hb := C.2.1
  have hl : lv_has ls 4 [(0, .ref (G.2.1 75))] := hl
  have inX6 : ∀ w ∈ u_ws RX6 TX6 22, w ∈ wsX6_digest := fun w h => List.mem_cons_of_mem _ (List.mem_append_right _ h)
  unfold f_X6_digest at hf
  refine lv_ldc2 (v := 953) hx hb C.2.2.2.2.1 (C.2.2.2.2.2.1 _ (List.mem_of_getElem? (i := 1) rfl)) dX6_digest_0 ?_
  refine lv_lstore_n (lv' := [(1, .long 953), (0, .ref (G.2.1 75))]) hx hb dX6_digest_3 rfl hl (by decide) rfl (fun ls hl => ?_)
  refine lv_iconst (v := 0) hx hb dX6_digest_4 (by decide) ?_
  refine lv_istore_n (lv' := [(3, .int 0), (1, .long 953), (0, .ref (G.2.1 75))]) hx hb dX6_digest_5 rfl hl (by decide) rfl (fun ls hl => ?_)
  exact w_X6_digest_6 C  FU 953 0 _ hf _ _ _ hR hS (lv_sub hl [2, 1, 0] rfl)
