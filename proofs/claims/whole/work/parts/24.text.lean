theorem hdV_X3_append : yX3_append.cls = RX3 ∧ yX3_append.cls ≠ "java/lang/invoke/MethodHandle" ∧ yX3_append.cls ≠ "java/lang/invoke/VarHandle" ∧ (parseMethodDescriptor yX3_append.desc).map (fun d => d.parameters.length) = some 1 := by decide +kernel
def f_X3_append (x1 : Int32) (σ : St) : Option (St) :=
  bv (f_X2_put 74 (sI σ 72 0) x1 σ) (fun σ9 => some (pI σ9 72 0 ((sI σ9 72 0) + 1)))
set_option maxHeartbeats 4000000 in
set_option maxRecDepth 100000 in
theorem c_X3_append (l : Launch) (G : GG) (x1 : Int32) (σ : St) (res : St) (hf : f_X3_append x1 σ = some res) : CV l yX3_append wsX3_append 1 [.ref (G.2.1 72), .int x1] G σ (fun u => u = res) := by
  refine x_ent (ret := none) cX3_append 2 (by decide) rfl (Nat.le_of_ble_eq_true rfl) ?_
  intro p e s m below meth c ls C hR hS hl
  have C : Cx p s m [.ref (G.2.1 72), .int x1].toArray meth c cX3_append RX3 wsX3_append none 2 G := C
  have hx := C.1
  have hb := C.2.1
  have hl : lv_has ls 2 [(0, .ref (G.2.1 72)), (1, .int x1)] := hl
  have inX3 : ∀ w ∈ u_ws RX3 TX3 5, w ∈ wsX3_append := fun w h => List.mem_cons_of_mem _ (List.mem_append_left _ (List.mem_append_right _ h))
  unfold f_X3_append at hf
  refine lv_aload_n hx hb dX3_append_0 rfl (lv_at hl 0 rfl) ?_
  refine x_get C hR inX3 72 (by decide) (cz2 rfl) rfl 1 (by decide) 1 rfl (.ref (G.2.1 73)) rfl dX3_append_1 ?_
  refine lv_aload_n hx hb dX3_append_4 rfl (lv_at hl 0 rfl) ?_
  refine x_get C hR inX3 72 (by decide) (cz2 rfl) rfl 0 (by decide) 2 rfl (.int (sI σ 72 0)) rfl dX3_append_5 ?_
  refine lv_iload_n hx hb dX3_append_8 rfl (lv_at hl 1 rfl) ?_
  obtain ⟨σ9_, hc_9, hf⟩ := bv_some hf
  refine x_cvV C hl.1 hR hS (c_X2_put l G 74 73 rfl rfl rfl (sI σ 72 0) x1 σ _ hc_9) gX3_append_X2_put rfl hdV_X2_put ⟨Nat.le_of_ble_eq_true rfl, Nat.le_of_ble_eq_true rfl⟩ (by decide) (cz1 rfl) rfl rfl (As := [.int (sI σ 72 0), .int x1]) (rest := []) rfl (Nat.le_of_ble_eq_true rfl) ⟨Nat.le_of_ble_eq_true rfl, Nat.le_of_ble_eq_true rfl⟩ dX3_append_9 (fun σ9 H locs hq_9 hR hS => ?_)
  subst hq_9
  refine lv_aload_n hx hb dX3_append_12 rfl (lv_at hl 0 rfl) ?_
  refine lv_dup hx hb dX3_append_13 rfl ?_
  refine x_get C hR inX3 72 (by decide) (cz2 rfl) rfl 0 (by decide) 2 rfl (.int (sI σ9 72 0)) rfl dX3_append_14 ?_
  refine lv_iconst (v := 1) hx hb dX3_append_17 (by decide) ?_
  refine lv_iadd hx hb dX3_append_18 ?_
  refine x_put (τ := (pI σ9 72 0 ((sI σ9 72 0) + 1))) C hR hS inX3 tyX3 tyX3_ok nmX3 72 (by decide) (cz2 rfl) rfl 0 (by decide) (pfI2_0 rfl) pI_o 2 rfl rfl rfl rfl (Nat.le_of_ble_eq_true rfl) dX3_append_19 (fun H locs hR hS => ?_)
  obtain rfl := Option.some.inj hf
  exact x_vret C hR hS dX3_append_22 rfl
theorem hdV_X3_behindBlanks : yX3_behindBlanks.cls = RX3 ∧ yX3_behindBlanks.cls ≠ "java/lang/invoke/MethodHandle" ∧ yX3_behindBlanks.cls ≠ "java/lang/invoke/VarHandle" ∧ (parseMethodDescriptor yX3_behindBlanks.desc).map (fun d => d.parameters.length) = some 1 := by decide +kernel
def f_X3_behindBlanks_2 : Nat → Int32 → St → Option (Int32 × St)
  | 0, _, _ => none
  | n + 1, x2, σ => (if (sI σ 72 0) ≤ x2 then some (x2, σ) else bd (f_X2_get 74 x2 σ) (fun r15 σ15 => (if r15 = 32 then (f_X3_behindBlanks_2 n) (x2 + 1) σ15 else some (x2, σ15))))
def f_X3_behindBlanks (x1 : Int32) (σ : St) : Option (Int32 × St) :=
  f_X3_behindBlanks_2 FU x1 σ
set_option maxHeartbeats 4000000 in
set_option maxRecDepth 100000 in
theorem w_X3_behindBlanks_2 {p : Program} {l : Launch} {e : Env} {s : State} {m : MethodId} {args : Array Value} {below : List Frame} {meth : Method} {c : Code} {G : GG} (C : Cx p s m args meth c cX3_behindBlanks RX3 wsX3_behindBlanks (some .int) 3 G) {res : Int32 × St} : ∀ (n : Nat) (x2 : Int32) (σ : St), f_X3_behindBlanks_2 n x2 σ = some res → WC p l e 1 s m args below meth c G (QI G res) 3 2 [(0, .ref (G.2.1 72)), (2, .int x2)] [] σ := by
  have hx := C.1
  have hb := C.2.1
  have inX3 : ∀ w ∈ u_ws RX3 TX3 5, w ∈ wsX3_behindBlanks := fun w h => List.mem_cons_of_mem _ (List.mem_append_left _ (List.mem_append_right _ h))
  intro n
  induction n with
  | zero => intro x2 σ hf; cases hf
  | succ n hrc2 =>
    intro x2 σ hf _ _ _ hR hS hl
    unfold f_X3_behindBlanks_2 at hf
    refine lv_iload_n hx hb dX3_behindBlanks_2 rfl (lv_at hl 1 rfl) ?_
    refine lv_aload_n hx hb dX3_behindBlanks_3 rfl (lv_at hl 0 rfl) ?_
    refine x_get C hR inX3 72 (by decide) (cz2 rfl) rfl 0 (by decide) 1 rfl (.int (sI σ 72 0)) rfl dX3_behindBlanks_4 ?_
    refine lv_icmp_ge (tgt := 29) hx hb dX3_behindBlanks_7 (by decide) (fun c_7 => ?_) (fun c_7 => ?_)
    · replace hf := (if_pos c_7).symm.trans hf
      refine lv_iload_n hx hb dX3_behindBlanks_29 rfl (lv_at hl 1 rfl) ?_
      obtain rfl := Option.some.inj hf
      exact x_iret C hR hS dX3_behindBlanks_30 ⟨rfl, rfl⟩
    · replace hf := (if_neg c_7).symm.trans hf
      refine lv_aload_n hx hb dX3_behindBlanks_10 rfl (lv_at hl 0 rfl) ?_
      refine x_get C hR inX3 72 (by decide) (cz2 rfl) rfl 1 (by decide) 2 rfl (.ref (G.2.1 73)) rfl dX3_behindBlanks_11 ?_
      refine lv_iload_n hx hb dX3_behindBlanks_14 rfl (lv_at hl 1 rfl) ?_
      obtain ⟨r15_, σ15_, hc_15, hf⟩ := bd_some hf
      refine x_cvI C hl.1 hR hS (c_X2_get l G 74 73 rfl rfl rfl x2 σ _ hc_15) gX3_behindBlanks_X2_get rfl hdV_X2_get ⟨Nat.le_of_ble_eq_true rfl, Nat.le_of_ble_eq_true rfl⟩ (by decide) (cz1 rfl) rfl rfl (As := [.int x2]) (rest := []) rfl (Nat.le_of_ble_eq_true rfl) ⟨Nat.le_of_ble_eq_true rfl, Nat.le_of_ble_eq_true rfl⟩ dX3_behindBlanks_15 (fun r15 σ15 H locs hq_15 hR hS => ?_)
      obtain ⟨rfl, rfl⟩ := hq_15
      refine lv_bipush (v := 32) hx hb dX3_behindBlanks_18 (by decide) ?_
      refine lv_icmp_ne (tgt := 29) hx hb dX3_behindBlanks_20 (by decide) (fun c_20 => ?_) (fun c_20 => ?_)
      · replace hf := (if_neg c_20).symm.trans hf
        refine lv_iload_n hx hb dX3_behindBlanks_29 rfl (lv_at hl 1 rfl) ?_
        obtain rfl := Option.some.inj hf
        exact x_iret C hR hS dX3_behindBlanks_30 ⟨rfl, rfl⟩
      · replace hf := (if_pos c_20).symm.trans hf
        refine lv_iinc (v := x2 + 1) (lv' := [(2, .int (x2 + 1)), (0, .ref (G.2.1 72))]) hx hb dX3_behindBlanks_23 hl (k := 1) rfl rfl (by decide) rfl (fun ls hl => ?_)
        refine lv_goto (tgt := 2) hx hb dX3_behindBlanks_26 (by decide) ?_
        exact hrc2 (x2 + 1) _ hf _ _ _ hR hS (lv_sub hl [1, 0] rfl)
set_option maxHeartbeats 4000000 in
set_option maxRecDepth 100000 in
theorem c_X3_behindBlanks (l : Launch) (G : GG) (x1 : Int32) (σ : St) (res : Int32 × St) (hf : f_X3_behindBlanks x1 σ = some res) : CI l yX3_behindBlanks wsX3_behindBlanks 1 [.ref (G.2.1 72), .int x1] G σ (fun r u => r = res.1 ∧ u = res.2) := by
  refine x_ent (ret := (some .int)) cX3_behindBlanks 3 (by decide) rfl (Nat.le_of_ble_eq_true rfl) ?_
  intro p e s m below meth c ls C hR hS hl
  have C : Cx p s m [.ref (G.2.1 72), .int x1].toArray meth c cX3_behindBlanks RX3 wsX3_behindBlanks (some .int) 3 G := C
  have hx := C.1
  have hb := C.2.1
  have hl : lv_has ls 3 [(0, .ref (G.2.1 72)), (1, .int x1)] := hl
  have inX3 : ∀ w ∈ u_ws RX3 TX3 5, w ∈ wsX3_behindBlanks := fun w h => List.mem_cons_of_mem _ (List.mem_append_left _ (List.mem_append_right _ h))
  unfold f_X3_behindBlanks at hf
  refine lv_iload_n hx hb dX3_behindBlanks_0 rfl (lv_at hl 1 rfl) ?_
  refine lv_istore_n (lv' := [(2, .int x1), (0, .ref (G.2.1 72)), (1, .int x1)]) hx hb dX3_behindBlanks_1 rfl hl (by decide) rfl (fun ls hl => ?_)
  exact w_X3_behindBlanks_2 C  FU x1 _ hf _ _ _ hR hS (lv_sub hl [1, 0] rfl)
theorem hdV_X3_isLetter : yX3_isLetter.cls = RX3 ∧ yX3_isLetter.cls ≠ "java/lang/invoke/MethodHandle" ∧ yX3_isLetter.cls ≠ "java/lang/invoke/VarHandle" ∧ (parseMethodDescriptor yX3_isLetter.desc).map (fun d => d.parameters.length) = some 1 := by decide +kernel
def f_X3_isLetter (x1 : Int32) (σ : St) : Option (Int32 × St) :=
  bd (f_X2_get 74 x1 σ) (fun r5 σ5 => bd (f_X5_within r5 97 122 σ5) (fun r12 σ12 => gb r12 (some (r12, σ12))))
set_option maxHeartbeats 4000000 in
set_option maxRecDepth 100000 in
theorem c_X3_isLetter (l : Launch) (G : GG) (x1 : Int32) (σ : St) (res : Int32 × St) (hf : f_X3_isLetter x1 σ = some res) : CI l yX3_isLetter wsX3_isLetter 1 [.ref (G.2.1 72), .int x1] G σ (fun r u => r = res.1 ∧ u = res.2) := by
  refine x_ent (ret := (some .boolean)) cX3_isLetter 2 (by decide) rfl (Nat.le_of_ble_eq_true rfl) ?_
  intro p e s m below meth c ls C hR hS hl
  have C : Cx p s m [.ref (G.2.1 72), .int x1].toArray meth c cX3_isLetter RX3 wsX3_isLetter (some .boolean) 2 G := C
  have hx := C.1
  have hb := C.2.1
  have hl : lv_has ls 2 [(0, .ref (G.2.1 72)), (1, .int x1)] := hl
  have inX3 : ∀ w ∈ u_ws RX3 TX3 5, w ∈ wsX3_isLetter := fun w h => List.mem_cons_of_mem _ (List.mem_append_left _ (List.mem_append_right _ h))
  unfold f_X3_isLetter at hf
  refine lv_aload_n hx hb dX3_isLetter_0 rfl (lv_at hl 0 rfl) ?_
  refine x_get C hR inX3 72 (by decide) (cz2 rfl) rfl 1 (by decide) 1 rfl (.ref (G.2.1 73)) rfl dX3_isLetter_1 ?_
  refine lv_iload_n hx hb dX3_isLetter_4 rfl (lv_at hl 1 rfl) ?_
  obtain ⟨r5_, σ5_, hc_5, hf⟩ := bd_some hf
  refine x_cvI C hl.1 hR hS (c_X2_get l G 74 73 rfl rfl rfl x1 σ _ hc_5) gX3_isLetter_X2_get rfl hdV_X2_get ⟨Nat.le_of_ble_eq_true rfl, Nat.le_of_ble_eq_true rfl⟩ (by decide) (cz1 rfl) rfl rfl (As := [.int x1]) (rest := []) rfl (Nat.le_of_ble_eq_true rfl) ⟨Nat.le_of_ble_eq_true rfl, Nat.le_of_ble_eq_true rfl⟩ dX3_isLetter_5 (fun r5 σ5 H locs hq_5 hR hS => ?_)
  obtain ⟨rfl, rfl⟩ := hq_5
  refine lv_bipush (v := 97) hx hb dX3_isLetter_8 (by decide) ?_
  refine lv_bipush (v := 122) hx hb dX3_isLetter_10 (by decide) ?_
  obtain ⟨r12_, σ12_, hc_12, hf⟩ := bd_some hf
  refine x_nsI C hl.1 hR hS (c_X5_within l G r5 97 122 σ5 _ hc_12) gX3_isLetter_X5_within_n58 C.2.2.2.2.2.2.2.2.1.2.2.1 9 8 rfl rfl rfl hdS_X5_within ⟨Nat.le_of_ble_eq_true rfl, Nat.le_of_ble_eq_true rfl⟩ rfl (As := [.int r5, .int 97, .int 122]) (rest := []) rfl (Nat.le_of_ble_eq_true rfl) ⟨Nat.le_of_ble_eq_true rfl, Nat.le_of_ble_eq_true rfl⟩ dX3_isLetter_12 (fun r12 σ12 H locs hq_12 hR hS => ?_)
  obtain ⟨rfl, rfl⟩ := hq_12
  obtain ⟨z_15, hf⟩ := gb_some hf
  obtain rfl := Option.some.inj hf
  exact x_zret C hR hS dX3_isLetter_15 z_15 ⟨rfl, rfl⟩
theorem hdV_X3_isFigure : yX3_isFigure.cls = RX3 ∧ yX3_isFigure.cls ≠ "java/lang/invoke/MethodHandle" ∧ yX3_isFigure.cls ≠ "java/lang/invoke/VarHandle" ∧ (parseMethodDescriptor yX3_isFigure.desc).map (fun d => d.parameters.length) = some 1 := by decide +kernel
def f_X3_isFigure (x1 : Int32) (σ : St) : Option (Int32 × St) :=
  bd (f_X2_get 74 x1 σ) (fun r5 σ5 => bd (f_X5_within r5 48 57 σ5) (fun r12 σ12 => gb r12 (some (r12, σ12))))
set_option maxHeartbeats 4000000 in
set_option maxRecDepth 100000 in
theorem c_X3_isFigure (l : Launch) (G : GG) (x1 : Int32) (σ : St) (res : Int32 × St) (hf : f_X3_isFigure x1 σ = some res) : CI l yX3_isFigure wsX3_isFigure 1 [.ref (G.2.1 72), .int x1] G σ (fun r u => r = res.1 ∧ u = res.2) := by
  refine x_ent (ret := (some .boolean)) cX3_isFigure 2 (by decide) rfl (Nat.le_of_ble_eq_true rfl) ?_
  intro p e s m below meth c ls C hR hS hl
  have C : Cx p s m [.ref (G.2.1 72), .int x1].toArray meth c cX3_isFigure RX3 wsX3_isFigure (some .boolean) 2 G := C
  have hx := C.1
  have hb := C.2.1
  have hl : lv_has ls 2 [(0, .ref (G.2.1 72)), (1, .int x1)] := hl
  have inX3 : ∀ w ∈ u_ws RX3 TX3 5, w ∈ wsX3_isFigure := fun w h => List.mem_cons_of_mem _ (List.mem_append_left _ (List.mem_append_right _ h))
  unfold f_X3_isFigure at hf
  refine lv_aload_n hx hb dX3_isFigure_0 rfl (lv_at hl 0 rfl) ?_
  refine x_get C hR inX3 72 (by decide) (cz2 rfl) rfl 1 (by decide) 1 rfl (.ref (G.2.1 73)) rfl dX3_isFigure_1 ?_
  refine lv_iload_n hx hb dX3_isFigure_4 rfl (lv_at hl 1 rfl) ?_
  obtain ⟨r5_, σ5_, hc_5, hf⟩ := bd_some hf
  refine x_cvI C hl.1 hR hS (c_X2_get l G 74 73 rfl rfl rfl x1 σ _ hc_5) gX3_isFigure_X2_get rfl hdV_X2_get ⟨Nat.le_of_ble_eq_true rfl, Nat.le_of_ble_eq_true rfl⟩ (by decide) (cz1 rfl) rfl rfl (As := [.int x1]) (rest := []) rfl (Nat.le_of_ble_eq_true rfl) ⟨Nat.le_of_ble_eq_true rfl, Nat.le_of_ble_eq_true rfl⟩ dX3_isFigure_5 (fun r5 σ5 H locs hq_5 hR hS => ?_)
  obtain ⟨rfl, rfl⟩ := hq_5
  refine lv_bipush (v := 48) hx hb dX3_isFigure_8 (by decide) ?_
  refine lv_bipush (v := 57) hx hb dX3_isFigure_10 (by decide) ?_
  obtain ⟨r12_, σ12_, hc_12, hf⟩ := bd_some hf
  refine x_nsI C hl.1 hR hS (c_X5_within l G r5 48 57 σ5 _ hc_12) gX3_isFigure_X5_within_n58 C.2.2.2.2.2.2.2.2.1.2.2.1 9 8 rfl rfl rfl hdS_X5_within ⟨Nat.le_of_ble_eq_true rfl, Nat.le_of_ble_eq_true rfl⟩ rfl (As := [.int r5, .int 48, .int 57]) (rest := []) rfl (Nat.le_of_ble_eq_true rfl) ⟨Nat.le_of_ble_eq_true rfl, Nat.le_of_ble_eq_true rfl⟩ dX3_isFigure_12 (fun r12 σ12 H locs hq_12 hR hS => ?_)
  obtain ⟨rfl, rfl⟩ := hq_12
  obtain ⟨z_15, hf⟩ := gb_some hf
  obtain rfl := Option.some.inj hf
  exact x_zret C hR hS dX3_isFigure_15 z_15 ⟨rfl, rfl⟩
theorem hdV_X3_tokenEnd : yX3_tokenEnd.cls = RX3 ∧ yX3_tokenEnd.cls ≠ "java/lang/invoke/MethodHandle" ∧ yX3_tokenEnd.cls ≠ "java/lang/invoke/VarHandle" ∧ (parseMethodDescriptor yX3_tokenEnd.desc).map (fun d => d.parameters.length) = some 1 := by decide +kernel
def f_X3_tokenEnd_42 : Nat → Int32 → St → Option (Int32 × St)
  | 0, _, _ => none
  | n + 1, x2, σ => (if (sI σ 72 0) ≤ x2 then some (x2, σ) else bd (f_X3_isFigure x2 σ) (fun r52 σ52 => (if r52 = 0 then some (x2, σ52) else (f_X3_tokenEnd_42 n) (x2 + 1) σ52)))
def f_X3_tokenEnd_12 : Nat → Int32 → St → Option (Int32 × St)
  | 0, _, _ => none
  | n + 1, x2, σ => (if (sI σ 72 0) ≤ x2 then some (x2, σ) else bd (f_X3_isLetter x2 σ) (fun r22 σ22 => (if r22 = 0 then some (x2, σ22) else (f_X3_tokenEnd_12 n) (x2 + 1) σ22)))
def f_X3_tokenEnd (x1 : Int32) (σ : St) : Option (Int32 × St) :=
  bd (f_X3_isLetter x1 σ) (fun r6 σ6 => (if r6 = 0 then bd (f_X3_isFigure x1 σ6) (fun r36 σ36 => (if r36 = 0 then some (x1 + 1, σ36) else f_X3_tokenEnd_42 FU (x1 + 1) σ36)) else f_X3_tokenEnd_12 FU (x1 + 1) σ6))
set_option maxHeartbeats 4000000 in
set_option maxRecDepth 100000 in
theorem w_X3_tokenEnd_42 {p : Program} {l : Launch} {e : Env} {s : State} {m : MethodId} {args : Array Value} {below : List Frame} {meth : Method} {c : Code} {G : GG} (C : Cx p s m args meth c cX3_tokenEnd RX3 wsX3_tokenEnd (some .int) 3 G) {res : Int32 × St} : ∀ (n : Nat) (x2 : Int32) (σ : St), f_X3_tokenEnd_42 n x2 σ = some res → WC p l e 2 s m args below meth c G (QI G res) 3 42 [(0, .ref (G.2.1 72)), (2, .int x2)] [] σ := by
  have hx := C.1
  have hb := C.2.1
  have inX3 : ∀ w ∈ u_ws RX3 TX3 5, w ∈ wsX3_tokenEnd := fun w h => List.mem_cons_of_mem _ (List.mem_append_left _ (List.mem_append_right _ h))
  intro n
  induction n with
  | zero => intro x2 σ hf; cases hf
  | succ n hrc42 =>
    intro x2 σ hf _ _ _ hR hS hl
    unfold f_X3_tokenEnd_42 at hf
    refine lv_iload_n hx hb dX3_tokenEnd_42 rfl (lv_at hl 1 rfl) ?_
    refine lv_aload_n hx hb dX3_tokenEnd_43 rfl (lv_at hl 0 rfl) ?_
    refine x_get C hR inX3 72 (by decide) (cz2 rfl) rfl 0 (by decide) 1 rfl (.int (sI σ 72 0)) rfl dX3_tokenEnd_44 ?_
    refine lv_icmp_ge (tgt := 64) hx hb dX3_tokenEnd_47 (by decide) (fun c_47 => ?_) (fun c_47 => ?_)
    · replace hf := (if_pos c_47).symm.trans hf
      refine lv_iload_n hx hb dX3_tokenEnd_64 rfl (lv_at hl 1 rfl) ?_
      obtain rfl := Option.some.inj hf
      exact x_iret C hR hS dX3_tokenEnd_65 ⟨rfl, rfl⟩
    · replace hf := (if_neg c_47).symm.trans hf
      refine lv_aload_n hx hb dX3_tokenEnd_50 rfl (lv_at hl 0 rfl) ?_
      refine lv_iload_n hx hb dX3_tokenEnd_51 rfl (lv_at hl 1 rfl) ?_
      obtain ⟨r52_, σ52_, hc_52, hf⟩ := bd_some hf
      refine x_cvI C hl.1 hR hS (c_X3_isFigure l G x2 σ _ hc_52) gX3_tokenEnd_X3_isFigure rfl hdV_X3_isFigure ⟨Nat.le_of_ble_eq_true rfl, Nat.le_of_ble_eq_true rfl⟩ (by decide) (cz2 rfl) rfl rfl (As := [.int x2]) (rest := []) rfl (Nat.le_of_ble_eq_true rfl) ⟨Nat.le_of_ble_eq_true rfl, Nat.le_of_ble_eq_true rfl⟩ dX3_tokenEnd_52 (fun r52 σ52 H locs hq_52 hR hS => ?_)
      obtain ⟨rfl, rfl⟩ := hq_52
      refine lv_if_eq (tgt := 64) hx hb dX3_tokenEnd_55 (by decide) (fun c_55 => ?_) (fun c_55 => ?_)
      · replace hf := (if_pos c_55).symm.trans hf
        refine lv_iload_n hx hb dX3_tokenEnd_64 rfl (lv_at hl 1 rfl) ?_
        obtain rfl := Option.some.inj hf
        exact x_iret C hR hS dX3_tokenEnd_65 ⟨rfl, rfl⟩
      · replace hf := (if_neg c_55).symm.trans hf
        refine lv_iinc (v := x2 + 1) (lv' := [(2, .int (x2 + 1)), (0, .ref (G.2.1 72))]) hx hb dX3_tokenEnd_58 hl (k := 1) rfl rfl (by decide) rfl (fun ls hl => ?_)
        refine lv_goto (tgt := 42) hx hb dX3_tokenEnd_61 (by decide) ?_
        exact hrc42 (x2 + 1) _ hf _ _ _ hR hS (lv_sub hl [1, 0] rfl)
set_option maxHeartbeats 4000000 in
set_option maxRecDepth 100000 in
theorem w_X3_tokenEnd_12 {p : Program} {l : Launch} {e : Env} {s : State} {m : MethodId} {args : Array Value} {below : List Frame} {meth : Method} {c : Code} {G : GG} (C : Cx p s m args meth c cX3_tokenEnd RX3 wsX3_tokenEnd (some .int) 3 G) {res : Int32 × St} : ∀ (n : Nat) (x2 : Int32) (σ : St), f_X3_tokenEnd_12 n x2 σ = some res → WC p l e 2 s m args below meth c G (QI G res) 3 12 [(0, .ref (G.2.1 72)), (2, .int x2)] [] σ := by
  have hx := C.1
  have hb := C.2.1
  have inX3 : ∀ w ∈ u_ws RX3 TX3 5, w ∈ wsX3_tokenEnd := fun w h => List.mem_cons_of_mem _ (List.mem_append_left _ (List.mem_append_right _ h))
  intro n
  induction n with
  | zero => intro x2 σ hf; cases hf
  | succ n hrc12 =>
    intro x2 σ hf _ _ _ hR hS hl
    unfold f_X3_tokenEnd_12 at hf
    refine lv_iload_n hx hb dX3_tokenEnd_12 rfl (lv_at hl 1 rfl) ?_
    refine lv_aload_n hx hb dX3_tokenEnd_13 rfl (lv_at hl 0 rfl) ?_
    refine x_get C hR inX3 72 (by decide) (cz2 rfl) rfl 0 (by decide) 1 rfl (.int (sI σ 72 0)) rfl dX3_tokenEnd_14 ?_
    refine lv_icmp_ge (tgt := 64) hx hb dX3_tokenEnd_17 (by decide) (fun c_17 => ?_) (fun c_17 => ?_)
    · replace hf := (if_pos c_17).symm.trans hf
      refine lv_iload_n hx hb dX3_tokenEnd_64 rfl (lv_at hl 1 rfl) ?_
      obtain rfl := Option.some.inj hf
      exact x_iret C hR hS dX3_tokenEnd_65 ⟨rfl, rfl⟩
    · replace hf := (if_neg c_17).symm.trans hf
      refine lv_aload_n hx hb dX3_tokenEnd_20 rfl (lv_at hl 0 rfl) ?_
      refine lv_iload_n hx hb dX3_tokenEnd_21 rfl (lv_at hl 1 rfl) ?_
      obtain ⟨r22_, σ22_, hc_22, hf⟩ := bd_some hf
      refine x_cvI C hl.1 hR hS (c_X3_isLetter l G x2 σ _ hc_22) gX3_tokenEnd_X3_isLetter rfl hdV_X3_isLetter ⟨Nat.le_of_ble_eq_true rfl, Nat.le_of_ble_eq_true rfl⟩ (by decide) (cz2 rfl) rfl rfl (As := [.int x2]) (rest := []) rfl (Nat.le_of_ble_eq_true rfl) ⟨Nat.le_of_ble_eq_true rfl, Nat.le_of_ble_eq_true rfl⟩ dX3_tokenEnd_22 (fun r22 σ22 H locs hq_22 hR hS => ?_)
      obtain ⟨rfl, rfl⟩ := hq_22
      refine lv_if_eq (tgt := 64) hx hb dX3_tokenEnd_25 (by decide) (fun c_25 => ?_) (fun c_25 => ?_)
      · replace hf := (if_pos c_25).symm.trans hf
        refine lv_iload_n hx hb dX3_tokenEnd_64 rfl (lv_at hl 1 rfl) ?_
        obtain rfl := Option.some.inj hf
        exact x_iret C hR hS dX3_tokenEnd_65 ⟨rfl, rfl⟩
      · replace hf := (if_neg c_25).symm.trans hf
        refine lv_iinc (v := x2 + 1) (lv' := [(2, .int (x2 + 1)), (0, .ref (G.2.1 72))]) hx hb dX3_tokenEnd_28 hl (k := 1) rfl rfl (by decide) rfl (fun ls hl => ?_)
        refine lv_goto (tgt := 12) hx hb dX3_tokenEnd_31 (by decide) ?_
        exact hrc12 (x2 + 1) _ hf _ _ _ hR hS (lv_sub hl [1, 0] rfl)
set_option maxHeartbeats 4000000 in
set_option maxRecDepth 100000 in
theorem c_X3_tokenEnd (l : Launch) (G : GG) (x1 : Int32) (σ : St) (res : Int32 × St) (hf : f_X3_tokenEnd x1 σ = some res) : CI l yX3_tokenEnd wsX3_tokenEnd 2 [.ref (G.2.1 72), .int x1] G σ (fun r u => r = res.1 ∧ u = res.2) := by
  refine x_ent (ret := (some .int)) cX3_tokenEnd 3 (by decide) rfl (Nat.le_of_ble_eq_true rfl) ?_
  intro p e s m below meth c ls C hR hS hl
  have C : Cx p s m [.ref (G.2.1 72), .int x1].toArray meth c cX3_tokenEnd RX3 wsX3_tokenEnd (some .int) 3 G := C
  have hx := C.1
  have hb := C.2.1
  have hl : lv_has ls 3 [(0, .ref (G.2.1 72)), (1, .int x1)] := hl
  have inX3 : ∀ w ∈ u_ws RX3 TX3 5, w ∈ wsX3_tokenEnd := fun w h => List.mem_cons_of_mem _ (List.mem_append_left _ (List.mem_append_right _ h))
  unfold f_X3_tokenEnd at hf
  refine lv_iload_n hx hb dX3_tokenEnd_0 rfl (lv_at hl 1 rfl) ?_
  refine lv_iconst (v := 1) hx hb dX3_tokenEnd_1 (by decide) ?_
  refine lv_iadd hx hb dX3_tokenEnd_2 ?_
  refine lv_istore_n (lv' := [(2, .int (x1 + 1)), (0, .ref (G.2.1 72)), (1, .int x1)]) hx hb dX3_tokenEnd_3 rfl hl (by decide) rfl (fun ls hl => ?_)
  refine lv_aload_n hx hb dX3_tokenEnd_4 rfl (lv_at hl 1 rfl) ?_
  refine lv_iload_n hx hb dX3_tokenEnd_5 rfl (lv_at hl 2 rfl) ?_
  obtain ⟨r6_, σ6_, hc_6, hf⟩ := bd_some hf
  refine x_cvI C hl.1 hR hS (c_X3_isLetter l G x1 σ _ hc_6) gX3_tokenEnd_X3_isLetter rfl hdV_X3_isLetter ⟨Nat.le_of_ble_eq_true rfl, Nat.le_of_ble_eq_true rfl⟩ (by decide) (cz2 rfl) rfl rfl (As := [.int x1]) (rest := []) rfl (Nat.le_of_ble_eq_true rfl) ⟨Nat.le_of_ble_eq_true rfl, Nat.le_of_ble_eq_true rfl⟩ dX3_tokenEnd_6 (fun r6 σ6 H locs hq_6 hR hS => ?_)
  obtain ⟨rfl, rfl⟩ := hq_6
  refine lv_if_eq (tgt := 34) hx hb dX3_tokenEnd_9 (by decide) (fun c_9 => ?_) (fun c_9 => ?_)
  · replace hf := (if_pos c_9).symm.trans hf
    refine lv_aload_n hx hb dX3_tokenEnd_34 rfl (lv_at hl 1 rfl) ?_
    refine lv_iload_n hx hb dX3_tokenEnd_35 rfl (lv_at hl 2 rfl) ?_
    obtain ⟨r36_, σ36_, hc_36, hf⟩ := bd_some hf
    refine x_cvI C hl.1 hR hS (c_X3_isFigure l G x1 σ6 _ hc_36) gX3_tokenEnd_X3_isFigure rfl hdV_X3_isFigure ⟨Nat.le_of_ble_eq_true rfl, Nat.le_of_ble_eq_true rfl⟩ (by decide) (cz2 rfl) rfl rfl (As := [.int x1]) (rest := []) rfl (Nat.le_of_ble_eq_true rfl) ⟨Nat.le_of_ble_eq_true rfl, Nat.le_of_ble_eq_true rfl⟩ dX3_tokenEnd_36 (fun r36 σ36 H locs hq_36 hR hS => ?_)
    obtain ⟨rfl, rfl⟩ := hq_36
    refine lv_if_eq (tgt := 64) hx hb dX3_tokenEnd_39 (by decide) (fun c_39 => ?_) (fun c_39 => ?_)
    · replace hf := (if_pos c_39).symm.trans hf
      refine lv_iload_n hx hb dX3_tokenEnd_64 rfl (lv_at hl 0 rfl) ?_
      obtain rfl := Option.some.inj hf
      exact x_iret C hR hS dX3_tokenEnd_65 ⟨rfl, rfl⟩
    · replace hf := (if_neg c_39).symm.trans hf
      exact w_X3_tokenEnd_42 C  FU (x1 + 1) _ hf _ _ _ hR hS (lv_sub hl [1, 0] rfl)
  · replace hf := (if_neg c_9).symm.trans hf
    exact w_X3_tokenEnd_12 C  FU (x1 + 1) _ hf _ _ _ hR hS (lv_sub hl [1, 0] rfl)
theorem hdV_X3_numberAt : yX3_numberAt.cls = RX3 ∧ yX3_numberAt.cls ≠ "java/lang/invoke/MethodHandle" ∧ yX3_numberAt.cls ≠ "java/lang/invoke/VarHandle" ∧ (parseMethodDescriptor yX3_numberAt.desc).map (fun d => d.parameters.length) = some 2 := by decide +kernel
def f_X3_numberAt_22 : Nat → Int32 → Int32 → Int32 → St → Option (Int32 × St)
  | 0, _, _, _, _ => none
  | n + 1, x2, x3, x4, σ => (if x2 ≤ x4 then some (x3, σ) else bd (f_X2_get 74 x4 σ) (fun r38 σ38 => (f_X3_numberAt_22 n) x2 (((10 * x3) + r38) - 48) (x4 + 1) σ38))
def f_X3_numberAt (x1 : Int32) (x2 : Int32) (σ : St) : Option (Int32 × St) :=
  bd (f_X3_isFigure x1 σ) (fun r2 σ2 => (if r2 = 0 then some ((-1), σ2) else (if (x2 - x1) ≤ 2 then f_X3_numberAt_22 FU x2 0 x1 σ2 else some ((-1), σ2))))
set_option maxHeartbeats 4000000 in
set_option maxRecDepth 100000 in
theorem w_X3_numberAt_22 {p : Program} {l : Launch} {e : Env} {s : State} {m : MethodId} {args : Array Value} {below : List Frame} {meth : Method} {c : Code} {G : GG} (C : Cx p s m args meth c cX3_numberAt RX3 wsX3_numberAt (some .int) 5 G) {res : Int32 × St} : ∀ (n : Nat) (x2 : Int32) (x3 : Int32) (x4 : Int32) (σ : St), f_X3_numberAt_22 n x2 x3 x4 σ = some res → WC p l e 2 s m args below meth c G (QI G res) 5 22 [(0, .ref (G.2.1 72)), (2, .int x2), (3, .int x3), (4, .int x4)] [] σ := by
  have hx := C.1
  have hb := C.2.1
  have inX3 : ∀ w ∈ u_ws RX3 TX3 5, w ∈ wsX3_numberAt := fun w h => List.mem_cons_of_mem _ (List.mem_append_left _ (List.mem_append_right _ h))
  intro n
  induction n with
  | zero => intro x2 x3 x4 σ hf; cases hf
  | succ n hrc22 =>
    intro x2 x3 x4 σ hf _ _ _ hR hS hl
    unfold f_X3_numberAt_22 at hf
    refine lv_iload hx hb dX3_numberAt_22 (lv_at hl 3 rfl) ?_
    refine lv_iload_n hx hb dX3_numberAt_24 rfl (lv_at hl 1 rfl) ?_
    refine lv_icmp_ge (tgt := 52) hx hb dX3_numberAt_25 (by decide) (fun c_25 => ?_) (fun c_25 => ?_)
    · replace hf := (if_pos c_25).symm.trans hf
      refine lv_iload_n hx hb dX3_numberAt_52 rfl (lv_at hl 2 rfl) ?_
      obtain rfl := Option.some.inj hf
      exact x_iret C hR hS dX3_numberAt_53 ⟨rfl, rfl⟩
    · replace hf := (if_neg c_25).symm.trans hf
      refine lv_bipush (v := 10) hx hb dX3_numberAt_28 (by decide) ?_
      refine lv_iload_n hx hb dX3_numberAt_30 rfl (lv_at hl 2 rfl) ?_
      refine lv_imul hx hb dX3_numberAt_31 ?_
      refine lv_aload_n hx hb dX3_numberAt_32 rfl (lv_at hl 0 rfl) ?_
      refine x_get C hR inX3 72 (by decide) (cz2 rfl) rfl 1 (by decide) 1 rfl (.ref (G.2.1 73)) rfl dX3_numberAt_33 ?_
      refine lv_iload hx hb dX3_numberAt_36 (lv_at hl 3 rfl) ?_
      obtain ⟨r38_, σ38_, hc_38, hf⟩ := bd_some hf
      refine x_cvI C hl.1 hR hS (c_X2_get l G 74 73 rfl rfl rfl x4 σ _ hc_38) gX3_numberAt_X2_get rfl hdV_X2_get ⟨Nat.le_of_ble_eq_true rfl, Nat.le_of_ble_eq_true rfl⟩ (by decide) (cz1 rfl) rfl rfl (As := [.int x4]) (rest := [.int (10 * x3)]) rfl (Nat.le_of_ble_eq_true rfl) ⟨Nat.le_of_ble_eq_true rfl, Nat.le_of_ble_eq_true rfl⟩ dX3_numberAt_38 (fun r38 σ38 H locs hq_38 hR hS => ?_)
      obtain ⟨rfl, rfl⟩ := hq_38
      refine lv_iadd hx hb dX3_numberAt_41 ?_
      refine lv_bipush (v := 48) hx hb dX3_numberAt_42 (by decide) ?_
      refine lv_isub hx hb dX3_numberAt_44 ?_
      refine lv_istore_n (lv' := [(3, .int (((10 * x3) + r38) - 48)), (0, .ref (G.2.1 72)), (2, .int x2), (4, .int x4)]) hx hb dX3_numberAt_45 rfl hl (by decide) rfl (fun ls hl => ?_)
      refine lv_iinc (v := x4 + 1) (lv' := [(4, .int (x4 + 1)), (3, .int (((10 * x3) + r38) - 48)), (0, .ref (G.2.1 72)), (2, .int x2)]) hx hb dX3_numberAt_46 hl (k := 3) rfl rfl (by decide) rfl (fun ls hl => ?_)
      refine lv_goto (tgt := 22) hx hb dX3_numberAt_49 (by decide) ?_
      exact hrc22 x2 (((10 * x3) + r38) - 48) (x4 + 1) _ hf _ _ _ hR hS (lv_sub hl [2, 3, 1, 0] rfl)
set_option maxHeartbeats 4000000 in
set_option maxRecDepth 100000 in
theorem c_X3_numberAt (l : Launch) (G : GG) (x1 : Int32) (x2 : Int32) (σ : St) (res : Int32 × St) (hf : f_X3_numberAt x1 x2 σ = some res) : CI l yX3_numberAt wsX3_numberAt 2 [.ref (G.2.1 72), .int x1, .int x2] G σ (fun r u => r = res.1 ∧ u = res.2) := by
  refine x_ent (ret := (some .int)) cX3_numberAt 5 (by decide) rfl (Nat.le_of_ble_eq_true rfl) ?_
  intro p e s m below meth c ls C hR hS hl
  have C : Cx p s m [.ref (G.2.1 72), .int x1, .int x2].toArray meth c cX3_numberAt RX3 wsX3_numberAt (some .int) 5 G := C
  have hx := C.1
  have hb := C.2.1
  have hl : lv_has ls 5 [(0, .ref (G.2.1 72)), (1, .int x1), (2, .int x2)] := hl
  have inX3 : ∀ w ∈ u_ws RX3 TX3 5, w ∈ wsX3_numberAt := fun w h => List.mem_cons_of_mem _ (List.mem_append_left _ (List.mem_append_right _ h))
  unfold f_X3_numberAt at hf
  refine lv_aload_n hx hb dX3_numberAt_0 rfl (lv_at hl 0 rfl) ?_
  refine lv_iload_n hx hb dX3_numberAt_1 rfl (lv_at hl 1 rfl) ?_
  obtain ⟨r2_, σ2_, hc_2, hf⟩ := bd_some hf
  refine x_cvI C hl.1 hR hS (c_X3_isFigure l G x1 σ _ hc_2) gX3_numberAt_X3_isFigure rfl hdV_X3_isFigure ⟨Nat.le_of_ble_eq_true rfl, Nat.le_of_ble_eq_true rfl⟩ (by decide) (cz2 rfl) rfl rfl (As := [.int x1]) (rest := []) rfl (Nat.le_of_ble_eq_true rfl) ⟨Nat.le_of_ble_eq_true rfl, Nat.le_of_ble_eq_true rfl⟩ dX3_numberAt_2 (fun r2 σ2 H locs hq_2 hR hS => ?_)
  obtain ⟨rfl, rfl⟩ := hq_2
  refine lv_if_eq (tgt := 15) hx hb dX3_numberAt_5 (by decide) (fun c_5 => ?_) (fun c_5 => ?_)
  · replace hf := (if_pos c_5).symm.trans hf
    refine lv_iconst (v := (-1)) hx hb dX3_numberAt_15 (by decide) ?_
    obtain rfl := Option.some.inj hf
    exact x_iret C hR hS dX3_numberAt_16 ⟨rfl, rfl⟩
  · replace hf := (if_neg c_5).symm.trans hf
    refine lv_iload_n hx hb dX3_numberAt_8 rfl (lv_at hl 2 rfl) ?_
    refine lv_iload_n hx hb dX3_numberAt_9 rfl (lv_at hl 1 rfl) ?_
    refine lv_isub hx hb dX3_numberAt_10 ?_
    refine lv_iconst (v := 2) hx hb dX3_numberAt_11 (by decide) ?_
    refine lv_icmp_le (tgt := 17) hx hb dX3_numberAt_12 (by decide) (fun c_12 => ?_) (fun c_12 => ?_)
    · replace hf := (if_pos c_12).symm.trans hf
      refine lv_iconst (v := 0) hx hb dX3_numberAt_17 (by decide) ?_
      refine lv_istore_n (lv' := [(3, .int 0), (0, .ref (G.2.1 72)), (1, .int x1), (2, .int x2)]) hx hb dX3_numberAt_18 rfl hl (by decide) rfl (fun ls hl => ?_)
      refine lv_iload_n hx hb dX3_numberAt_19 rfl (lv_at hl 2 rfl) ?_
      refine lv_istore (lv' := [(4, .int x1), (3, .int 0), (0, .ref (G.2.1 72)), (1, .int x1), (2, .int x2)]) hx hb dX3_numberAt_20 hl (by decide) rfl (fun ls hl => ?_)
      exact w_X3_numberAt_22 C  FU x2 0 x1 _ hf _ _ _ hR hS (lv_sub hl [2, 4, 1, 0] rfl)
    · replace hf := (if_neg c_12).symm.trans hf
      refine lv_iconst (v := (-1)) hx hb dX3_numberAt_15 (by decide) ?_
      obtain rfl := Option.some.inj hf
      exact x_iret C hR hS dX3_numberAt_16 ⟨rfl, rfl⟩
