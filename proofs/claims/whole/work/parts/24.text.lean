theorem hdV_X3_append : yX3_append.cls = RX3 ∧ yX3_append.cls ≠ "java/lang/invoke/MethodHandle" ∧ yX3_append.cls ≠ "java/lang/invoke/VarHandle" ∧ (parseMethodDescriptor yX3_append.desc).map (fun d => d.parameters.length) = some 1 := by decide +kernel
def f_X3_append (x1 : Int32) (σ : St) : Option (St) :=
  bv (f_X2_put 74 (sI σ 72 0) x1 σ) (fun σ9 => some (pI σ9 72 0 ((sI σ9 72 0) + 1)))
set_option maxHeartbeats 4000000 in
set_option maxRecDepth 100000 in
theorem c_X3_append (l : Launch) (G : GG) (x1 : Int32) (σ : St) (res : St) (hf : f_X3_append x1 σ = some res) : CV l yX3_append wsX3_append 1 [.ref (G.2.1 72), .int x1] G σ (fun u => u = res) := by
  refine x_ent (ret := none) cX3_append 2 (by decide) rfl (Nat.le_of_ble_eq_true rfl) ?_
  intro p e s m below meth c ls C hR hS hl
  have C : Cx p s m [.ref (G.2.1 72), .int x1].toArray meth c cX3_append RX3 wsX3_append none 2 G := C
  have hx := C.1
  have hb := C.2.1
  have hl : lv_has ls 2 [(0, .ref (G.2.1 72)), (1, .int x1)] := hl
  have inX3 : ∀ w ∈ u_ws RX3 TX3 5, w ∈ wsX3_append := fun w h => List.mem_cons_of_mem _ (List.mem_append_left _ (List.mem_append_right _ h))
  unfold f_X3_append at hf
  refine lv_aload_n hx hb dX3_append_0 rfl (lv_at hl 0 rfl) ?_
  refine x_get C hR inX3 72 (by decide) (cz2 rfl) rfl 1 (by decide) 1 rfl (.ref (G.2.1 73)) rfl dX3_append_1 ?_
  refine lv_aload_n hx hb dX3_append_4 rfl (lv_at hl 0 rfl) ?_
  refine x_get C hR inX3 72 (by decide) (cz2 rfl) rfl 0 (by decide) 2 rfl (.int (sI σ 72 0)) rfl dX3_append_5 ?_
  refine lv_iload_n hx hb dX3_append_8 rfl (lv_at hl 1 rfl) ?_
  obtain ⟨σ9_, hc_9, hf⟩ := bv_some hf
  refine x_cvV C hl.1 hR hS (c_X2_put l G 74 73 rfl rfl rfl (sI σ 72 0) x1 σ _ hc_9) gX3_append_X2_put rfl hdV_X2_put ⟨Nat.le_of_ble_eq_true rfl, Nat.le_of_ble_eq_true rfl⟩ (by decide) (cz1 rfl) rfl rfl (As := [.int (sI σ 72 0), .int x1]) (rest := []) rfl (Nat.le_of_ble_eq_true rfl) ⟨Nat.le_of_ble_eq_true rfl, Nat.le_of_ble_eq_true rfl⟩ dX3_append_9 (fun σ9 H locs hq_9 hR hS => ?_)
  subst hq_9
  refine lv_aload_n hx hb dX3_append_12 rfl (lv_at hl 0 rfl) ?_
  refine lv_dup hx hb dX3_append_13 rfl ?_
  refine x_get C hR inX3 72 (by decide) (cz2 rfl) rfl 0 (by decide) 2 rfl (.int (sI σ9 72 0)) rfl dX3_append_14 ?_
  refine lv_iconst (v := 1) hx hb dX3_append_17 (by decide) ?_
  refine lv_iadd hx hb dX3_append_18 ?_
  refine x_put (τ := (pI σ9 72 0 ((sI σ9 72 0) + 1))) C hR hS inX3 tyX3 tyX3_ok nmX3 72 (by decide) (cz2 rfl) rfl 0 (by decide) (pfI2_0 rfl) pI_o 2 rfl rfl rfl rfl (Nat.le_of_ble_eq_true rfl) dX3_append_19 (fun H locs hR hS => ?_)
  obtain rfl := Option.some.inj hf
  exact x_vret C hR hS dX3_append_22 rfl
theorem hdV_X3_behindBlanks : yX3_behindBlanks.cls = RX3 ∧ yX3_behindBlanks.cls ≠ "java/lang/invoke/MethodHandle" ∧ yX3_behindBlanks.cls ≠ "java/lang/invoke/VarHandle" ∧ (parseMethodDescriptor yX3_behindBlanks.desc).map (fun d => d.parameters.length) = some 1 := by decide +kernel
def f_X3_behindBlanks_2 : Nat → Int32 → St → Option (Int32 × St)
  | 0, _, _ => none
  | n + 1, x2, σ => (if (sI σ 72 0) ≤ x2 then some (x2, σ) else bd (f_X2_get 74 x2 σ) (fun r15 σ15 => (if r15 = 32 then (f_X3_behindBlanks_2 n) (x2 + 1) σ15 else some (x2, σ15))))
def f_X3_behindBlanks (x1 : Int32) (σ : St) : Option (Int32 × St) :=
  f_X3_behindBlanks_2 FU x1 σ
set_option maxHeartbeats 4000000 in
set_option maxRecDepth 100000 in
theorem w_X3_behindBlanks_2 {p : Program} {l : Launch} {e : Env} {s : State} {m : MethodId} {args : Array Value} {below : List Frame} {meth : Method} {c : Code} {G : GG} (C : Cx p s m args meth c cX3_behindBlanks RX3 wsX3_behindBlanks (some .int) 3 G) {res : Int32 × St} : ∀ (n : Nat) (x2 : Int32) (σ : St), f_X3_behindBlanks_2 n x2 σ = some res → WC p l e 1 s m args below meth c G (QI G res) 3 2 [(0, .ref (G.2.1 72)), (2, .int x2)] [] σ := by
  have hx := C.1
  have hb := C.2.1
  have inX3 : ∀ w ∈ u_ws RX3 TX3 5, w ∈ wsX3_behindBlanks := fun w h => List.mem_cons_of_mem _ (List.mem_append_left _ (List.mem_append_right _ h))
  intro n
  induction n with
  | zero => intro x2 σ hf; cases hf
  | succ n hrc2 =>
    intro x2 σ hf _ _ _ hR hS hl
    unfold f_X3_behindBlanks_2 at hf
    refine lv_iload_n hx hb dX3_behindBlanks_2 rfl (lv_at hl 1 rfl) ?_
    refine lv_aload_n hx hb dX3_behindBlanks_3 rfl (lv_at hl 0 rfl) ?_
    refine x_get C hR inX3 72 (by decide) (cz2 rfl) rfl 0 (by decide) 1 rfl (.int (sI σ 72 0)) rfl dX3_behindBlanks_4 ?_
    refine lv_icmp_ge (tgt := 29) hx hb dX3_behindBlanks_7 (by decide) (fun c_7 => ?_) (fun c_7 => ?_)
    · replace hf := (if_pos c_7).symm.trans hf
      refine lv_iload_n hx hb dX3_behindBlanks_29 rfl (lv_at hl 1 rfl) ?_
      obtain rfl := Option.some.inj hf
      exact x_iret C hR hS dX3_behindBlanks_30 ⟨rfl, rfl⟩
    · replace hf := (if_neg c_7).symm.trans hf
      refine lv_aload_n hx hb dX3_behindBlanks_10 rfl (lv_at hl 0 rfl) ?_
      refine x_get C hR inX3 72 (by decide) (cz2 rfl) rfl 1 (by decide) 2 rfl (.ref (G.2.1 73)) rfl dX3_behindBlanks_11 ?_
      refine lv_iload_n hx hb dX3_behindBlanks_14 rfl (lv_at hl 1 rfl) ?_
      obtain ⟨r15_, σ15_, hc_15, hf⟩ := bd_some hf
      refine x_cvI C hl.1 hR hS (c_X2_get l G 74 73 rfl rfl rfl x2 σ _ hc_15) gX3_behindBlanks_X2_get rfl hdV_X2_get ⟨Nat.le_of_ble_eq_true rfl, Nat.le_of_ble_eq_true rfl⟩ (by decide) (cz1 rfl) rfl rfl (As := [.int x2]) (rest := []) rfl (Nat.le_of_ble_eq_true rfl) ⟨Nat.le_of_ble_eq_true rfl, Nat.le_of_ble_eq_true rfl⟩ dX3_behindBlanks_15 (fun r15 σ15 H locs hq_15 hR hS => ?_)
      obtain ⟨rfl, rfl⟩ := hq_15
      refine lv_bipush (v := 32) hx hb dX3_behindBlanks_18 (by decide) ?_
      refine lv_icmp_ne (tgt := 29) hx hb dX3_behindBlanks_20 (by decide) (fun c_20 => ?_) (fun c_20 => ?_)
      · replace hf := (if_neg c_20).symm.trans hf
        refine lv_iload_n hx hb dX3_behindBlanks_29 rfl (lv_at hl 1 rfl) ?_
        obtain rfl := Option.some.inj hf
        exact x_iret C hR hS dX3_behindBlanks_30 ⟨rfl, rfl⟩
      · replace hf := (if_pos c_20).symm.trans hf
        refine lv_iinc (v := x2 + 1) (lv' := [(2, .int (x2 + 1)), (0, .ref (G.2.1 72))]) hx hb dX3_behindBlanks_23 hl (k := 1) rfl rfl (by decide) rfl (fun ls hl => ?_)
        refine lv_goto (tgt := 2) hx hb dX3_behindBlanks_26 (by decide) ?_
        exact hrc2 (x2 + 1) _ hf _ _ _ hR hS (lv_sub hl [1, 0] rfl)
set_option maxHeartbeats 4000000 in
set_option maxRecDepth 100000 in
theorem c_X3_behindBlanks (l : Launch) (G : GG) (x1 : Int32) (σ : St) (res : Int32 × St) (hf : f_X3_behindBlanks x1 σ = some res) : CI l yX3_behindBlanks wsX3_behindBlanks 1 [.ref (G.2.1 72), .int x1] G σ (fun r u => r = res.1 ∧ u = res.2) := by
  refine x_ent (ret := (some .int)) cX3_behindBlanks 3 (by decide) rfl (Nat.le_of_ble_eq_true rfl) ?_
  intro p e s m below meth c ls C hR hS hl
  have C : Cx p s m [.ref (G.2.1 72), .int x1].toArray meth c cX3_behindBlanks RX3 wsX3_behindBlanks (some .int) 3 G := C
  have hx := C.1
  have hb := C.2.1
  have hl : lv_has ls 3 [(0, .ref (G.2.1 72)), (1, .int x1)] := hl
  have inX3 : ∀ w ∈ u_ws RX3 TX3 5, w ∈ wsX3_behindBlanks := fun w h => List.mem_cons_of_mem _ (List.mem_append_left _ (List.mem_append_right _ h))
  unfold f_X3_behindBlanks at hf
  refine lv_iload_n hx hb dX3_behindBlanks_0 rfl (lv_at hl 1 rfl) ?_
  refine lv_istore_n (lv' := [(2, .int x1), (0, .ref (G.2.1 72)), (1, .int x1)]) hx hb dX3_behindBlanks_1 rfl hl (by decide) rfl (fun ls hl => ?_)
  exact w_X3_behindBlanks_2 C  FU x1 _ hf _ _ _ hR hS (lv_sub hl [1, 0] rfl)
theorem hdV_X3_isLetter : yX3_isLetter.cls = RX3 ∧ yX3_isLetter.cls ≠ "java/lang/invoke/MethodHandle" ∧ yX3_isLetter.cls ≠ "java/lang/invoke/VarHandle" ∧ (parseMethodDescriptor yX3_isLetter.desc).map (fun d => d.parameters.length) = some 1 := by decide +kernel
def f_X3_isLetter (x1 : Int32) (σ : St) : Option (Int32 × St) :=
  bd (f_X2_get 74 x1 σ) (fun r5 σ5 => bd (f_X5_within r5 97 122 σ5) (fun r12 σ12 => gb r12 (some (r12, σ12))))
set_option maxHeartbeats 4000000 in
set_option maxRecDepth 100000 in
theorem c_X3_isLetter (l : Launch) (G : GG) (x1 : Int32) (σ : St) (res : Int32 × St) (hf : f_X3_isLetter x1 σ = some res) : CI l yX3_isLetter wsX3_isLetter 1 [.ref (G.2.1 72), .int x1] G σ (fun r u => r = res.1 ∧ u = res.2) := by
  refine x_ent (ret := (some .boolean)) cX3_isLetter 2 (by decide) rfl (Nat.le_of_ble_eq_true rfl) ?_
  intro p e s m below meth c ls C hR hS hl
  have C : Cx p s m [.ref (G.2.1 72), .int x1].toArray meth c cX3_isLetter RX3 wsX3_isLetter (some .boolean) 2 G := C
  have hx := C.1
  have hb := C.2.1
  have hl : lv_has ls 2 [(0, .ref (G.2.1 72)), (1, .int x1)] := hl
  have inX3 : ∀ w ∈ u_ws RX3 TX3 5, w ∈ wsX3_isLetter := fun w h => List.mem_cons_of_mem _ (List.mem_append_left _ (List.mem_append_right _ h))
  unfold f_X3_isLetter at hf
  refine lv_aload_n hx hb dX3_isLetter_0 rfl (lv_at hl 0 rfl) ?_
  refine x_get C hR inX3 72 (by decide) (cz2 rfl) rfl 1 (by decide) 1 rfl (.ref (G.2.1 73)) rfl dX3_isLetter_1 ?_
  refine lv_iload_n hx hb dX3_isLetter_4 rfl (lv_at hl 1 rfl) ?_
  obtain ⟨r5_, σ5_, hc_5, hf⟩ := bd_some hf
  refine x_cvI C hl.1 hR hS (c_X2_get l G 74 73 rfl rfl rfl x1 σ _ hc_5) gX3_isLetter_X2_get rfl hdV_X2_get ⟨Nat.le_of_ble_eq_true rfl, Nat.le_of_ble_eq_true rfl⟩ (by decide) (cz1 rfl) rfl rfl (As := [.int x1]) (rest := []) rfl (Nat.le_of_ble_eq_true rfl) ⟨Nat.le_of_ble_eq_true rfl, Nat.le_of_ble_eq_true rfl⟩ dX3_isLetter_5 (fun r5 σ5 H locs hq_5 hR hS => ?_)
  obtain ⟨rfl, rfl⟩ := hq_5
  refine lv_bipush (v := 97) hx hb dX3_isLetter_8 (by decide) ?_
  refine lv_bipush (v := 122) hx hb dX3_isLetter_10 (by decide) ?_
  obtain ⟨r12_, σ12_, hc_12, hf⟩ := bd_some hf
  refine x_nsI C hl.1 hR hS (c_X5_within l G r5 97 122 σ5 _ hc_12) gX3_isLetter_X5_within_n58 C.2.2.2.2.2.2.2.2.1.2.2.1 9 8 rfl rfl rfl hdS_X5_within ⟨Nat.le_of_ble_eq_true rfl, Nat.le_of_ble_eq_true rfl⟩ rfl (As := [.int r5, .int 97, .int 122]) (rest := []) rfl (Nat.le_of_ble_eq_true rfl) ⟨Nat.le_of_ble_eq_true rfl, Nat.le_of_ble_eq_true rfl⟩ dX3_isLetter_12 (fun r12 σ12 H locs hq_12 hR hS => ?_)
  obtain ⟨rfl, rfl⟩ := hq_12
  obtain ⟨z_15, hf⟩ := gb_some hf
  obtain rfl := Option.some.inj hf
  exact x_zret C hR hS dX3_isLetter_15 z_15 ⟨rfl, rfl⟩
theorem hdV_X3_isFigure : yX3_isFigure.cls = RX3 ∧ yX3_isFigure.cls ≠ "java/lang/invoke/MethodHandle" ∧ yX3_isFigure.cls ≠ "java/lang/invoke/VarHandle" ∧ (parseMethodDescriptor yX3_isFigure.desc).map (fun d => d.parameters.length) = some 1 := by decide +kernel
def f_X3_isFigure (x1 : Int32) (σ : St) : Option (Int32 × St) :=
  bd (f_X2_get 74 x1 σ) (fun r5 σ5 => bd (f_X5_within r5 48 57 σ5) (fun r12 σ12 => gb r12 (some (r12, σ12))))
set_option maxHeartbeats 4000000 in
set_option maxRecDepth 100000 in
theorem c_X3_isFigure (l : Launch) (G : GG) (x1 : Int32) (σ : St) (res : Int32 × St) (hf : f_X3_isFigure x1 σ = some res) : CI l yX3_isFigure wsX3_isFigure 1 [.ref (G.2.1 72), .int x1] G σ (fun r u => r = res.1 ∧ u = res.2) := by
  refine x_ent (ret := (some .boolean)) cX3_isFigure 2 (by decide) rfl (Nat.le_of_ble_eq_true rfl) ?_
  intro p e s m below meth c ls C hR hS hl
  have C : Cx p s m [.ref (G.2.1 72), .int x1].toArray meth c cX3_isFigure RX3 wsX3_isFigure (some .boolean) 2 G := C
  have hx := C.1
  have hb := C.2.1
  have hl : lv_has ls 2 [(0, .ref (G.2.1 72)), (1, .int x1)] := hl
  have inX3 : ∀ w ∈ u_ws RX3 TX3 5, w ∈ wsX3_isFigure := fun w h => List.mem_cons_of_mem _ (List.mem_append_left _ (List.mem_append_right _ h))
  unfold f_X3_isFigure at hf
  refine lv_aload_n hx hb dX3_isFigure_0 rfl (lv_at hl 0 rfl) ?_
  refine x_get C hR inX3 72 (by decide) (cz2 rfl) rfl 1 (by decide) 1 rfl (.ref (G.2.1 73)) rfl dX3_isFigure_1 ?_
  refine lv_iload_n hx hb dX3_isFigure_4 rfl (lv_at hl 1 rfl) ?_
  obtain ⟨r5_, σ5_, hc_5, hf⟩ := bd_some hf
  refine x_cvI C hl.1 hR hS (c_X2_get l G 74 73 rfl rfl rfl x1 σ _ hc_5) gX3_isFigure_X2_get rfl hdV_X2_get ⟨Nat.le_of_ble_eq_true rfl, Nat.le_of_ble_eq_true rfl⟩ (by decide) (cz1 rfl) rfl rfl (As := [.int x1]) (rest := []) rfl (Nat.le_of_ble_eq_true rfl) ⟨Nat.le_of_ble_eq_true rfl, Nat.le_of_ble_eq_true rfl⟩ dX3_isFigure_5 (fun r5 σ5 H locs hq_5 hR hS => ?_)
  obtain ⟨rfl, rfl⟩ := hq_5
  refine lv_bipush (v := 48) hx hb dX3_isFigure_8 (by decide) ?_
  refine lv_bipush (v := 57) hx hb dX3_isFigure_10 (by decide) ?_
  obtain ⟨r12_, σ12_, hc_12, hf⟩ := bd_some hf
  refine x_nsI C hl.1 hR hS (c_X5_within l G r5 48 57 σ5 _ hc_12) gX3_isFigure_X5_within_n58 C.2.2.2.2.2.2.2.2.1.2.2.1 9 8 rfl rfl rfl hdS_X5_within ⟨Nat.le_of_ble_eq_true rfl, Nat.le_of_ble_eq_true rfl⟩ rfl (As := [.int r5, .int 48, .int 57]) (rest := []) rfl (Nat.le_of_ble_eq_true rfl) ⟨Nat.le_of_ble_eq_true rfl, Nat.le_of_ble_eq_true rfl⟩ dX3_isFigure_12 (fun r12 σ12 H locs hq_12 hR hS => ?_)
  obtain ⟨rfl, rfl⟩ := hq_12
  obtain ⟨z_15, hf⟩ := gb_some hf
  obtain rfl := Option.some.inj hf
  exact x_zret C hR hS dX3_isFigure_15 z_15 ⟨rfl, rfl⟩
theorem hdV_X3_tokenEnd : yX3_tokenEnd.cls = RX3 ∧ yX3_tokenEnd.cls ≠ "java/lang/invoke/MethodHandle" ∧ yX3_tokenEnd.cls ≠ "java/lang/invoke/VarHandle" ∧ (parseMethodDescriptor yX3_tokenEnd.desc).map (fun d => d.parameters.length) = some 1 := by decide +kernel
def f_X3_tokenEnd_42 : Nat → Int32 → St → Option (Int32 × St)
  | 0, _, _ => none
  | n + 1, x2, σ => (if (sI σ 72 0) ≤ x2 then some (x2, σ) else bd (f_X3_isFigure x2 σ) (fun r52 σ52 => (if r52 = 0 then some (x2, σ52) else (f_X3_tokenEnd_42 n) (x2 + 1) σ52)))
def f_X3_tokenEnd_12 : Nat → Int32 → St → Option (Int32 × St)
  | 0, _, _ => none
  | n + 1, x2, σ => (if (sI σ 72 0) ≤ x2 then some (x2, σ) else bd (f_X3_isLetter x2 σ) (fun r22 σ22 => (if r22 = 0 then some (x2, σ22) else (f_X3_tokenEnd_12 n) (x2 + 1) σ22)))
def f_X3_tokenEnd (x1 : Int32) (σ : St) : Option (Int32 × St) :=
  bd (f_X3_isLetter x1 σ) (fun r6 σ6 => (if r6 = 0 then bd (f_X3_isFigure x1 σ6) (fun r36 σ36 => (if r36 = 0 then some (x1 + 1, σ36) else f_X3_tokenEnd_42 FU (x1 + 1) σ36)) else f_X3_tokenEnd_12 FU (x1 + 1) σ6))
set_option maxHeartbeats 4000000 in
set_option maxRecDepth 100000 in
theorem w_X3_tokenEnd_42 {p : Program} {l : Launch} {e : Env} {s : State} {m : MethodId} {args : Array Value} {below : List Frame} {meth : Method} {c : Code} {G : GG} (C : Cx p s m args meth c cX3_tokenEnd RX3 wsX3_tokenEnd (some .int) 3 G) {res : Int32 × St} : ∀ (n : Nat) (x2 : Int32) (σ : St), f_X3_tokenEnd_42 n x2 σ = some res → WC p l e 2 s m args below meth c G (QI G res) 3 42 [(0, .ref (G.2.1 72)), (2, .int x2)] [] σ := by
  have hx := C.1
  have hb := C.2.1
  have inX3 : ∀ w ∈ u_ws RX3 TX3 5, w ∈ wsX3_tokenEnd := fun w h => List.mem_cons_of_mem _ (List.mem_append_left _ (List.mem_append_right _ h))
  intro n
  induction n with
  | zero => intro x2 σ hf; cases hf
  | succ n hrc42 =>
    intro x2 σ hf _ _ _ hR hS hl
    unfold f_X3_tokenEnd_42 at hf
    refine lv_iload_n hx hb dX3_tokenEnd_42 rfl (lv_at hl 1 rfl) ?_
    refine lv_aload_n hx hb dX3_tokenEnd_43 rfl (lv_at hl 0 rfl) ?_
    refine x_get C hR inX3 72 (by decide) (cz2 rfl) rfl 0 (by decide) 1 rfl (.int (sI σ 72 0)) rfl dX3_tokenEnd_44 ?_
    refine lv_icmp_ge (tgt := 64) hx hb dX3_tokenEnd_47 (by decide) (fun c_47 => ?_) (fun c_47 => ?_)
    · replace hf := (if_pos c_47).symm.trans hf
      refine lv_iload_n hx hb dX3_tokenEnd_64 rfl (lv_at hl 1 rfl) ?_
      obtain rfl := Option.some.inj hf
      exact x_iret C hR hS dX3_tokenEnd_65 ⟨rfl, rfl⟩
    · replace hf := (if_neg c_47).symm.trans hf
      refine lv_aload_n hx hb dX3_tokenEnd_50 rfl (lv_at hl 0 rfl) ?_
      refine lv_iload_n hx hb dX3_tokenEnd_51 rfl (lv_at hl 1 rfl) ?_
      obtain ⟨r52_, σ52_, hc_52, hf⟩ := bd_some hf
      refine x_cvI C hl.1 hR hS (c_X3_isFigure l G x2 σ _ hc_52) gX3_tokenEnd_X3_isFigure rfl hdV_X3_isFigure ⟨Nat.le_of_ble_eq_true rfl, Nat.le_of_ble_eq_true rfl⟩ (by decide) (cz2 rfl) rfl rfl (As := [.int x2]) (rest := []) rfl (Nat.le_of_ble_eq_true rfl) ⟨Nat.le_of_ble_eq_true rfl, Nat.le_of_ble_eq_true rfl⟩ dX3_tokenEnd_52 (fun r52 σ52 H locs hq_52 hR hS => ?_)
      obtain ⟨rfl, rfl⟩ := hq_52
      refine lv_if_eq (tgt := 64) hx hb dX3_tokenEnd_55 (by decide) (fun c_55 => ?_) (fun c_55 => ?_)
      · replace hf := (if_pos c_55).symm.trans hf
        refine lv_iload_n hx hb dX3_tokenEnd_64 rfl (lv_at hl 1 rfl) ?_
        obtain rfl := Option.some.inj hf
        exact x_iret C hR hS dX3_tokenEnd_65 ⟨rfl, rfl⟩
      · replace hf := (if_neg c_55).symm.trans hf
        refine lv_iinc (v := x2 + 1) (lv' := [(2, .int (x2 + 1)), (0, .ref (G.2.1 72))]) hx hb dX3_tokenEnd_58 hl (k := 1) rfl rfl (by decide) rfl (fun ls hl => ?_)
        refine lv_goto (tgt := 42) hx hb dX3_tokenEnd_61 (by decide) ?_
        exact hrc42 (x2 + 1) _ hf _ _ _ hR hS (lv_sub hl [1, 0] rfl)
set_option maxHeartbeats 4000000 in
set_option maxRecDepth 100000 in
theorem w_X3_tokenEnd_12 {p : Program} {l : Launch} {e : Env} {s : State} {m : MethodId} {args : Array Value} {below : List Frame} {meth : Method} {c : Code} {G : GG} (C : Cx p s m args meth c cX3_tokenEnd RX3 wsX3_tokenEnd (some .int) 3 G) {res : Int32 × St} : ∀ (n : Nat) (x2 : Int32) (σ : St), f_X3_tokenEnd_12 n x2 σ = some res → WC p l e 2 s m args below meth c G (QI G res) 3 12 [(0, .ref (G.2.1 72)), (2, .int x2)] [] σ := by
  have hx := C.1
  have hb := C.2.1
  have inX3 : ∀ w ∈ u_ws RX3 TX3 5, w ∈ wsX3_tokenEnd := fun w h => List.mem_cons_of_mem _ (List.mem_append_left _ (List.mem_append_right _ h))
  intro n
  induction n with
  | zero => intro x2 σ hf; cases hf
  | succ n hrc12 =>
    intro x2 σ hf _ _ _ hR hS hl
    unfold f_X3_tokenEnd_12 at hf
    refine lv_iload_n hx hb dX3_tokenEnd_12 rfl (lv_at hl 1 rfl) ?_
    refine lv_aload_n hx hb dX3_tokenEnd_13 rfl (lv_at hl 0 rfl) ?_
    refine x_get C hR inX3 72 (by decide) (cz2 rfl) rfl 0 (by decide) 1 rfl (.int (sI σ 72 0)) rfl dX3_tokenEnd_14 ?_
    refine lv_icmp_ge (tgt := 64) hx hb dX3_tokenEnd_17 (by decide) (fun c_17 => ?_) (fun c_17 => ?_)
    · replace hf := (if_pos c_17).symm.trans hf
      refine lv_iload_n hx hb dX3_tokenEnd_64 rfl (lv_at hl 1 rfl) ?_
      obtain rfl := Option.some.inj hf
      exact x_iret C hR hS dX3_tokenEnd_65 ⟨rfl, rfl⟩
    · replace hf := (if_neg c_17).symm.trans hf
      refine lv_aload_n hx hb dX3_tokenEnd_20 rfl (lv_at hl 0 rfl) ?_
      refine lv_iload_n hx hb dX3_tokenEnd_21 rfl (lv_at hl 1 rfl) ?_
      obtain ⟨r22_, σ22_, hc_22, hf⟩ := bd_some hf
      refine x_cvI C hl.1 hR hS (c_X3_isLetter l G x2 σ _ hc_22) gX3_tokenEnd_X3_isLetter rfl hdV_X3_isLetter ⟨Nat.le_of_ble_eq_true rfl, Nat.le_of_ble_eq_true rfl⟩ (by decide) (cz2 rfl) rfl rfl (As := [.int x2]) (rest := []) rfl (Nat.le_of_ble_eq_true rfl) ⟨Nat.le_of_ble_eq_true rfl, Nat.le_of_ble_eq_true rfl⟩ dX3_tokenEnd_22 (fun r22 σ22 H locs hq_22 hR hS => ?_)
      obtain ⟨rfl, rfl⟩ := hq_22
      refine lv_if_eq (tgt := 64) hx hb dX3_tokenEnd_25 (by decide) (fun c_25 => ?_) (fun c_25 => ?_)
      · replace hf := (if_pos c_25).symm.trans hf
        refine lv_iload_n hx hb dX3_tokenEnd_64 rfl (lv_at hl 1 rfl) ?_
        obtain rfl := Option.some.inj hf
        exact x_iret C hR hS dX3_tokenEnd_65 ⟨rfl, rfl⟩
      · replace hf := (if_neg c_25).symm.trans hf
        refine lv_iinc (v := x2 + 1) (lv' := [(2, .int (x2 + 1)), (0, .ref (G.2.1 72))]) hx hb dX3_tokenEnd_28 hl (k := 1) rfl rfl (by decide) rfl (fun ls hl => ?_)
        refine lv_goto (tgt := 12) hx hb dX3_tokenEnd_31 (by decide) ?_
        exact hrc12 (x2 + 1) _ hf _ _ _ hR hS (lv_sub hl [1, 0] rfl)
set_option maxHeartbeats 4000000 in
set_option maxRecDepth 100000 in
theorem c_X3_tokenEnd (l : Launch) (G : GG) (x1 : Int32) (σ : St) (res : Int32 × St) (hf : f_X3_tokenEnd x1 σ = some res) : CI l yX3_tokenEnd wsX3_tokenEnd 2 [.ref (G.2.1 72), .int x1] G σ (fun r u => r = res.1 ∧ u = res.2) := by
  refine x_ent (ret := (some .int)) cX3_tokenEnd 3 (by decide) rfl (Nat.le_of_ble_eq_true rfl) ?_
  intro p e s m below meth c ls C hR hS hl
  have C : Cx p s m [.ref (G.2.1 72), .int x1].toArray meth c cX3_tokenEnd RX3 wsX3_tokenEnd (some .int) 3 G := C
  have hx := C.1
  have hb := C.2.1
  have hl : lv_has ls 3 [(0, .ref (G.2.1 72)), (1, .int x1)] := hl
  have inX3 : ∀ w ∈ u_ws RX3 TX3 5, w ∈ wsX3_tokenEnd := fun w h => List.mem_cons_of_mem _ (List.mem_append_left _ (List.mem_append_right _ h))
  unfold f_X3_tokenEnd at hf
  refine lv_iload_n hx hb dX3_tokenEnd_0 rfl (lv_at hl 1 rfl) ?_
  refine lv_iconst (v := 1) hx hb dX3_tokenEnd_1 (by decide) ?_
  refine lv_iadd hx hb dX3_tokenEnd_2 ?_
  refine lv_istore_n (lv' := [(2, .int (x1 + 1)), (0, .ref (G.2.1 72)), (1, .int x1)]) hx hb dX3_tokenEnd_3 rfl hl (by decide) rfl (fun ls hl => ?_)
  refine lv_aload_n hx hb dX3_tokenEnd_4 rfl (lv_at hl 1 rfl) ?_
  refine lv_iload_n hx hb dX3_tokenEnd_5 rfl (lv_at hl 2 rfl) ?_
  obtain ⟨r6_, σ6_, hc_6, hf⟩ := bd_some hf
  refine x_cvI C hl.1 hR hS (c_X3_isLetter l G x1 σ _ hc_6) gX3_tokenEnd_X3_isLetter rfl hdV_X3_isLetter ⟨Nat.le_of_ble_eq_true rfl, Nat.le_of_ble_eq_true rfl⟩ (by decide) (cz2 rfl) rfl rfl (As := [.int x1]) (rest := []) rfl (Nat.le_of_ble_eq_true rfl) ⟨Nat.le_of_ble_eq_true rfl, Nat.le_of_ble_eq_true rfl⟩ dX3_tokenEnd_6 (fun r6 σ6 H locs hq_6 hR hS => ?_)
  obtain ⟨rfl, rfl⟩ := hq_6
  refine lv_if_eq (tgt := 34) hx hb dX3_tokenEnd_9 (by decide) (fun c_9 => ?_) (fun c_9 => ?_)
  · replace hf := (if_pos c_9).symm.trans hf
    refine lv_aload_n hx hb dX3_tokenEnd_34 rfl (lv_at hl 1 rfl) ?_
    refine lv_iload_n hx hb dX3_tokenEnd_35 rfl (lv_at hl 2 rfl) ?_
    obtain ⟨r36_, σ36_, hc_36, hf⟩ := bd_some hf
    refine x_cvI C hl.1 hR hS (c_X3_isFigure l G x1 σ6 _ hc_36) gX3_tokenEnd_X3_isFigure rfl hdV_X3_isFigure ⟨Nat.le_of_ble_eq_true rfl, Nat.le_of_ble_eq_true rfl⟩ (by decide) (cz2 rfl) rfl rfl (As := [.int x1]) (rest := []) rfl (Nat.le_of_ble_eq_true rfl) ⟨Nat.le_of_ble_eq_true rfl, Nat.le_of_ble_eq_true rfl⟩ dX3_tokenEnd_36 (fun r36 σ36 H locs hq_36 hR hS => ?_)
    obtain ⟨rfl, rfl⟩ := hq_36
    refine lv_if_eq (tgt := 64) hx hb dX3_tokenEnd_39 (by decide) (fun c_39 => ?_) (fun c_39 => ?_)
    · replace hf := (if_pos c_39).symm.trans hf
      refine lv_iload_n hx hb dX3_tokenEnd_64 rfl (lv_at hl 0 rfl) ?_
      obtain rfl := Option.some.inj hf
      exact x_iret C hR hS dX3_tokenEnd_65 ⟨rfl, rfl⟩
    · replace hf := (if_neg c_39).symm.trans hf
      exact w_X3_tokenEnd_42 C  FU (x1 + 1) _ hf _ _ _ hR hS (lv_sub hl [1, 0] rfl)
  · replace hf := (if_neg c_9).symm.trans hf
    exact w_X3_tokenEnd_12 C  FU (x1 + 1) _ hf _ _ _ hR hS (lv_sub hl [1, 0] rfl)
theorem hdV_X3_numberAt : yX3_numberAt.cls = RX3 ∧ yX3_numberAt.cls ≠ "java/lang/invoke/MethodHandle" ∧ yX3_numberAt.cls ≠ "java/lang/invoke/VarHandle" ∧ (parseMethodDescriptor yX3_numberAt.desc).map (fun d => d.parameters.length) = some 2 := by decide +kernel
def f_X3_numberAt_22 : Nat → Int32 → Int32 → Int32 → St → Option (Int32 × St)
  | 0, _, _, _, _ => none
  | n + 1, x2, x3, x4, σ => (if x2 ≤ x4 then some (x3, σ) else bd (f_X2_get 74 x4 σ) (fun r38 σ38 => (f_X3_numberAt_22 n) x2 (((10 * x3) + r38) - 48) (x4 + 1) σ38))
def f_X3_numberAt (x1 : Int32) (x2 : Int32) (σ : St) : Option (Int32 × St) :=
  bd (f_X3_isFigure x1 σ) (fun r2 σ2 => (if r2 = 0 then some ((-1), σ2) else (if (x2 - x1) ≤ 2 then f_X3_numberAt_22 FU x2 0 x1 σ2 else some ((-1), σ2))))
set_option maxHeartbeats 4000000 in
set_option maxRecDepth 100000 in
theorem w_X3_numberAt_22 {p : Program} {l : Launch} {e : Env} {s : State} {m : MethodId} {args : Array Value} {below : List Frame} {meth : Method} {c : Code} {G : GG} (C : Cx p s m args meth c cX3_numberAt RX3 wsX3_numberAt (some .int) 5 G) {res : Int32 × St} : ∀ (n : Nat) (x2 : Int32) (x3 : Int32) (x4 : Int32) (σ : St), f_X3_numberAt_22 n x2 x3 x4 σ = some res → WC p l e 2 s m args below meth c G (QI G res) 5 22 [(0, .ref (G.2.1 72)), (2, .int x2), (3, .int x3), (4, .int x4)] [] σ := by
  have hx := C.1
  have hb := C.2.1
  have inX3 : ∀ w ∈ u_ws RX3 TX3 5, w ∈ wsX3_numberAt := fun w h => List.mem_cons_of_mem _ (List.mem_append_left _ (List.mem_append_right _ h))
  intro n
  induction n with
  | zero => intro x2 x3 x4 σ hf; cases hf
  | succ n hrc22 =>
    intro x2 x3 x4 σ hf _ _ _ hR hS hl
    unfold f_X3_numberAt_22 at hf
    refine lv_iload hx hb dX3_numberAt_22 (lv_at hl 3 rfl) ?_
    refine lv_iload_n hx hb dX3_numberAt_24 rfl (lv_at hl 1 rfl) ?_
    refine lv_icmp_ge (tgt := 52) hx hb dX3_numberAt_25 (by decide) (fun c_25 => ?_) (fun c_25 => ?_)
    · replace hf := (if_pos c_25).symm.trans hf
      refine lv_iload_n hx hb dX3_numberAt_52 rfl (lv_at hl 2 rfl) ?_
      obtain rfl := Option.some.inj hf
      exact x_iret C hR hS dX3_numberAt_53 ⟨rfl, rfl⟩
    · replace hf := (if_neg c_25).symm.trans hf
      refine lv_bipush (v := 10) hx hb dX3_numberAt_28 (by decide) ?_
      refine lv_iload_n hx hb dX3_numberAt_30 rfl (lv_at hl 2 rfl) ?_
      refine lv_imul hx hb dX3_numberAt_31 ?_
      refine lv_aload_n hx hb dX3_numberAt_32 rfl (lv_at hl 0 rfl) ?_
      refine x_get C hR inX3 72 (by decide) (cz2 rfl) rfl 1 (by decide) 1 rfl (.ref (G.2.1 73)) rfl dX3_numberAt_33 ?_
      refine lv_iload hx hb dX3_numberAt_36 (lv_at hl 3 rfl) ?_
      obtain ⟨r38_, σ38_, hc_38, hf⟩ := bd_some hf
      refine x_cvI C hl.1 hR hS (c_X2_get l G 74 73 rfl rfl rfl x4 σ _ hc_38) gX3_numberAt_X2_get rfl hdV_X2_get ⟨Nat.le_of_ble_eq_true rfl, Nat.le_of_ble_eq_true rfl⟩ (by decide) (cz1 rfl) rfl rfl (As := [.int x4]) (rest := [.int (10 * x3)]) rfl (Nat.le_of_ble_eq_true rfl) ⟨Nat.le_of_ble_eq_true rfl, Nat.le_of_ble_eq_true rfl⟩ dX3_numberAt_38 (fun r38 σ38 H locs hq_38 hR hS => ?_)
      obtain ⟨rfl, rfl⟩ := hq_38
      refine lv_iadd hx hb dX3_numberAt_41 ?_
      refine lv_bipush (v := 48) hx hb dX3_numberAt_42 (by decide) ?_
      refine lv_isub hx hb dX3_numberAt_44 ?_
      refine lv_istore_n (lv' := [(3, .int (((10 * x3) + r38) - 48)), (0, .ref (G.2.1 72)), (2, .int x2), (4, .int x4)]) hx hb dX3_numberAt_45 rfl hl (by decide) rfl (fun ls hl => ?_)
      refine lv_iinc (v := x4 + 1) (lv' := [(4, .int (x4 + 1)), (3, .int (((10 * x3) + r38) - 48)), (0, .ref (G.2.1 72)), (2, .int x2)]) hx hb dX3_numberAt_46 hl (k := 3) rfl rfl (by decide) rfl (fun ls hl => ?_)
      refine lv_goto (tgt := 22) hx hb dX3_numberAt_49 (by decide) ?_
      exact hrc22 x2 (((10 * x3) + r38) - 48) (x4 + 1) _ hf _ _ _ hR hS (lv_sub hl [2, 3, 1, 0] rfl)
set_option maxHeartbeats 4000000 in
set_option maxRecDepth 100000 in
theorem c_X3_numberAt (l : Launch) (G : GG) (x1 : Int32) (x2 : Int32) (σ : St) (res : Int32 × St) (hf : f_X3_numberAt x1 x2 σ = some res) : CI l yX3_numberAt wsX3_numberAt 2 [.ref (G.2.1 72), .int x1, .int x2] G σ (fun r u => r = res.1 ∧ u = res.2) := by
  refine x_ent (ret := (some .int)) cX3_numberAt 5 (by decide) rfl (Nat.le_of_ble_eq_true rfl) ?_
  intro p e s m below meth c ls C hR hS hl
  have C : Cx p s m [.ref (G.2.1 72), .int x1, .int x2].toArray meth c cX3_numberAt RX3 wsX3_numberAt (some .int) 5 G := C
  have hx := C.1
  have hb := C.2.1
  have hl : lv_has ls 5 [(0, .ref (G.2.1 72)), (1, .int x1), (2, .int x2)] := hl
  have inX3 : ∀ w ∈ u_ws RX3 TX3 5, w ∈ wsX3_numberAt := fun w h => List.mem_cons_of_mem _ (List.mem_append_left _ (List.mem_append_right _ h))
  unfold f_X3_numberAt at hf
  refine lv_aload_n hx hb dX3_numberAt_0 rfl (lv_at hl 0 rfl) ?_
  refine lv_iload_n hx hb dX3_numberAt_1 rfl (lv_at hl 1 rfl) ?_
  obtain ⟨r2_, σ2_, hc_2, hf⟩ := bd_some hf
  refine x_cvI C hl.1 hR hS (c_X3_isFigure l G x1 σ _ hc_2) gX3_numberAt_X3_isFigure rfl hdV_X3_isFigure ⟨Nat.le_of_ble_eq_true rfl, Nat.le_of_ble_eq_true rfl⟩ (by decide) (cz2 rfl) rfl rfl (As := [.int x1]) (rest := []) rfl (Nat.le_of_ble_eq_true rfl) ⟨Nat.le_of_ble_eq_true rfl, Nat.le_of_ble_eq_true rfl⟩ dX3_numberAt_2 (fun r2 σ2 H locs hq_2 hR hS => ?_)
  obtain ⟨rfl, rfl⟩ := hq_2
  refine lv_if_eq (tgt := 15) hx hb dX3_numberAt_5 (by decide) (fun c_5 => ?_) (fun c_5 => ?_)
  · replace hf := (if_pos c_5).symm.trans hf
    refine lv_iconst (v := (-1)) hx hb dX3_numberAt_15 (by decide) ?_
    obtain rfl := Option.some.inj hf
    exact x_iret C hR hS dX3_numberAt_16 ⟨rfl, rfl⟩
  · replace hf := (if_neg c_5).symm.trans hf
    refine lv_iload_n hx hb dX3_numberAt_8 rfl (lv_at hl 2 rfl) ?_
    refine lv_iload_n hx hb dX3_numberAt_9 rfl (lv_at hl 1 rfl) ?_
    refine lv_isub hx hb dX3_numberAt_10 ?_
    refine lv_iconst (v := 2) hx hb dX3_numberAt_11 (by decide) ?_
    refine lv_icmp_le (tgt := 17) hx hb dX3_numberAt_12 (by decide) (fun c_12 => ?_) (fun c_12 => ?_)
    · replace hf := (if_pos c_12).symm.trans hf
      refine lv_iconst (v := 0) hx hb dX3_numberAt_17 (by decide) ?_
      refine lv_istore_n (lv' := [(3, .int 0), (0, .ref (G.2.1 72)), (1, .int x1), (2, .int x2)]) hx hb dX3_numberAt_18 rfl hl (by decide) rfl (fun ls hl => ?_)
      refine lv_iload_n hx hb dX3_numberAt_19 rfl (lv_at hl 2 rfl) ?_
      refine lv_istore (lv' := [(4, .int x1), (3, .int 0), (0, .ref (G.2.1 72)), (1, .int x1), (2, .int x2)]) hx hb dX3_numberAt_20 hl (by decide) rfl (fun ls hl => ?_)
      exact w_X3_numberAt_22 C  FU x2 0 x1 _ hf _ _ _ hR hS (lv_sub hl [2, 4, 1, 0] rfl)
    · replace hf := (if_neg c_12).symm.trans hf
      refine lv_iconst (v := (-1)) hx hb dX3_numberAt_15 (by decide) ?_
      obtain rfl := Option.some.inj hf
      exact x_iret C hR hS dX3_numberAt_16 ⟨rfl, rfl⟩
theorem hdV_X3_isWord : yX3_isWord.cls = RX3 ∧ yX3_isWord.cls ≠ "java/lang/invoke/MethodHandle" ∧ yX3_isWord.cls ≠ "java/lang/invoke/VarHandle" ∧ (parseMethodDescriptor yX3_isWord.desc).map (fun d => d.parameters.length) = some 3 := by decide +kernel
def f_X3_isWord_0_15 : Nat → Int32 → Int32 → St → Option (Int32 × St)
  | 0, _, _, _ => none
  | n + 1, x1, x4, σ => bd (f_J0_length_8abf5 0 σ) (fun r18 σ18 => (if r18 ≤ x4 then some (1, σ18) else bd (f_X2_get 74 (x1 + x4) σ18) (fun r32 σ32 => bd (f_J0_charAt_5068e 0 x4 σ32) (fun r38 σ38 => (if r32 = r38 then (f_X3_isWord_0_15 n) x1 (x4 + 1) σ38 else some (0, σ38))))))
def f_X3_isWord_0 (x1 : Int32) (x2 : Int32) (σ : St) : Option (Int32 × St) :=
  bd (f_J0_length_8abf5 0 σ) (fun r4 σ4 => (if (x2 - x1) = r4 then f_X3_isWord_0_15 FU x1 0 σ4 else some (0, σ4)))
set_option maxHeartbeats 4000000 in
set_option maxRecDepth 100000 in
theorem w_X3_isWord_0_15 {p : Program} {l : Launch} {e : Env} {s : State} {m : MethodId} {args : Array Value} {below : List Frame} {meth : Method} {c : Code} {G : GG} (C : Cx p s m args meth c cX3_isWord RX3 wsX3_isWord (some .boolean) 5 G) {res : Int32 × St} : ∀ (n : Nat) (x1 : Int32) (x4 : Int32) (σ : St), f_X3_isWord_0_15 n x1 x4 σ = some res → WC p l e 4 s m args below meth c G (QI G res) 5 15 [(0, .ref (G.2.1 72)), (1, .int x1), (3, .ref (G.2.2.2.2.1 0)), (4, .int x4)] [] σ := by
  have hx := C.1
  have hb := C.2.1
  have inX3 : ∀ w ∈ u_ws RX3 TX3 5, w ∈ wsX3_isWord := fun w h => List.mem_cons_of_mem _ (List.mem_append_left _ (List.mem_append_right _ h))
  intro n
  induction n with
  | zero => intro x1 x4 σ hf; cases hf
  | succ n hrc15 =>
    intro x1 x4 σ hf _ _ _ hR hS hl
    unfold f_X3_isWord_0_15 at hf
    refine lv_iload hx hb dX3_isWord_15 (lv_at hl 3 rfl) ?_
    refine lv_aload_n hx hb dX3_isWord_17 rfl (lv_at hl 2 rfl) ?_
    obtain ⟨r18_, σ18_, hc_18, hf⟩ := bd_some hf
    refine x_cwI C hl.1 hR hS (c_J0_length_8abf5 l G 0 (by decide) σ _ hc_18) gX3_isWord_J0_length_8abf5 rfl hdV_J0_length_8abf5 ⟨Nat.le_of_ble_eq_true rfl, Nat.le_of_ble_eq_true rfl⟩ (vk_recv C.2.2.2.2.2.2.2.2.2.1 (by decide) hS) rfl (As := []) (rest := [.int x4]) rfl (Nat.le_of_ble_eq_true rfl) ⟨Nat.le_of_ble_eq_true rfl, Nat.le_of_ble_eq_true rfl⟩ dX3_isWord_18 (fun r18 σ18 H locs hq_18 hR hS => ?_)
    obtain ⟨rfl, rfl⟩ := hq_18
    refine lv_icmp_ge (tgt := 52) hx hb dX3_isWord_21 (by decide) (fun c_21 => ?_) (fun c_21 => ?_)
    · replace hf := (if_pos c_21).symm.trans hf
      refine lv_iconst (v := 1) hx hb dX3_isWord_52 (by decide) ?_
      obtain rfl := Option.some.inj hf
      exact x_zret C hR hS dX3_isWord_53 (by first | rfl | decide | (simp only []; split <;> rfl)) ⟨rfl, rfl⟩
    · replace hf := (if_neg c_21).symm.trans hf
      refine lv_aload_n hx hb dX3_isWord_24 rfl (lv_at hl 0 rfl) ?_
      refine x_get C hR inX3 72 (by decide) (cz2 rfl) rfl 1 (by decide) 1 rfl (.ref (G.2.1 73)) rfl dX3_isWord_25 ?_
      refine lv_iload_n hx hb dX3_isWord_28 rfl (lv_at hl 1 rfl) ?_
      refine lv_iload hx hb dX3_isWord_29 (lv_at hl 3 rfl) ?_
      refine lv_iadd hx hb dX3_isWord_31 ?_
      obtain ⟨r32_, σ32_, hc_32, hf⟩ := bd_some hf
      refine x_cvI C hl.1 hR hS (c_X2_get l G 74 73 rfl rfl rfl (x1 + x4) σ18 _ hc_32) gX3_isWord_X2_get rfl hdV_X2_get ⟨Nat.le_of_ble_eq_true rfl, Nat.le_of_ble_eq_true rfl⟩ (by decide) (cz1 rfl) rfl rfl (As := [.int (x1 + x4)]) (rest := []) rfl (Nat.le_of_ble_eq_true rfl) ⟨Nat.le_of_ble_eq_true rfl, Nat.le_of_ble_eq_true rfl⟩ dX3_isWord_32 (fun r32 σ32 H locs hq_32 hR hS => ?_)
      obtain ⟨rfl, rfl⟩ := hq_32
      refine lv_aload_n hx hb dX3_isWord_35 rfl (lv_at hl 2 rfl) ?_
      refine lv_iload hx hb dX3_isWord_36 (lv_at hl 3 rfl) ?_
      obtain ⟨r38_, σ38_, hc_38, hf⟩ := bd_some hf
      refine x_cwI C hl.1 hR hS (c_J0_charAt_5068e l G 0 (by decide) x4 σ32 _ hc_38) gX3_isWord_J0_charAt_5068e rfl hdV_J0_charAt_5068e ⟨Nat.le_of_ble_eq_true rfl, Nat.le_of_ble_eq_true rfl⟩ (vk_recv C.2.2.2.2.2.2.2.2.2.1 (by decide) hS) rfl (As := [.int x4]) (rest := [.int r32]) rfl (Nat.le_of_ble_eq_true rfl) ⟨Nat.le_of_ble_eq_true rfl, Nat.le_of_ble_eq_true rfl⟩ dX3_isWord_38 (fun r38 σ38 H locs hq_38 hR hS => ?_)
      obtain ⟨rfl, rfl⟩ := hq_38
      refine lv_icmp_eq (tgt := 46) hx hb dX3_isWord_41 (by decide) (fun c_41 => ?_) (fun c_41 => ?_)
      · replace hf := (if_pos c_41).symm.trans hf
        refine lv_iinc (v := x4 + 1) (lv' := [(4, .int (x4 + 1)), (0, .ref (G.2.1 72)), (1, .int x1), (3, .ref (G.2.2.2.2.1 0))]) hx hb dX3_isWord_46 hl (k := 3) rfl rfl (by decide) rfl (fun ls hl => ?_)
        refine lv_goto (tgt := 15) hx hb dX3_isWord_49 (by decide) ?_
        exact hrc15 x1 (x4 + 1) _ hf _ _ _ hR hS (lv_sub hl [1, 2, 3, 0] rfl)
      · replace hf := (if_neg c_41).symm.trans hf
        refine lv_iconst (v := 0) hx hb dX3_isWord_44 (by decide) ?_
        obtain rfl := Option.some.inj hf
        exact x_zret C hR hS dX3_isWord_45 (by first | rfl | decide | (simp only []; split <;> rfl)) ⟨rfl, rfl⟩
set_option maxHeartbeats 4000000 in
set_option maxRecDepth 100000 in
theorem c_X3_isWord_0 (l : Launch) (G : GG) (x1 : Int32) (x2 : Int32) (σ : St) (res : Int32 × St) (hf : f_X3_isWord_0 x1 x2 σ = some res) : CI l yX3_isWord wsX3_isWord 4 [.ref (G.2.1 72), .int x1, .int x2, .ref (G.2.2.2.2.1 0)] G σ (fun r u => r = res.1 ∧ u = res.2) := by
  refine x_ent (ret := (some .boolean)) cX3_isWord 5 (by decide) rfl (Nat.le_of_ble_eq_true rfl) ?_
  intro p e s m below meth c ls C hR hS hl
  have C : Cx p s m [.ref (G.2.1 72), .int x1, .int x2, .ref (G.2.2.2.2.1 0)].toArray meth c cX3_isWord RX3 wsX3_isWord (some .boolean) 5 G := C
  have hx := C.1
  have hb := C.2.1
  have hl : lv_has ls 5 [(0, .ref (G.2.1 72)), (1, .int x1), (2, .int x2), (3, .ref (G.2.2.2.2.1 0))] := hl
  have inX3 : ∀ w ∈ u_ws RX3 TX3 5, w ∈ wsX3_isWord := fun w h => List.mem_cons_of_mem _ (List.mem_append_left _ (List.mem_append_right _ h))
  unfold f_X3_isWord_0 at hf
  refine lv_iload_n hx hb dX3_isWord_0 rfl (lv_at hl 2 rfl) ?_
  refine lv_iload_n hx hb dX3_isWord_1 rfl (lv_at hl 1 rfl) ?_
  refine lv_isub hx hb dX3_isWord_2 ?_
  refine lv_aload_n hx hb dX3_isWord_3 rfl (lv_at hl 3 rfl) ?_
  obtain ⟨r4_, σ4_, hc_4, hf⟩ := bd_some hf
  refine x_cwI C hl.1 hR hS (c_J0_length_8abf5 l G 0 (by decide) σ _ hc_4) gX3_isWord_J0_length_8abf5 rfl hdV_J0_length_8abf5 ⟨Nat.le_of_ble_eq_true rfl, Nat.le_of_ble_eq_true rfl⟩ (vk_recv C.2.2.2.2.2.2.2.2.2.1 (by decide) hS) rfl (As := []) (rest := [.int (x2 - x1)]) rfl (Nat.le_of_ble_eq_true rfl) ⟨Nat.le_of_ble_eq_true rfl, Nat.le_of_ble_eq_true rfl⟩ dX3_isWord_4 (fun r4 σ4 H locs hq_4 hR hS => ?_)
  obtain ⟨rfl, rfl⟩ := hq_4
  refine lv_icmp_eq (tgt := 12) hx hb dX3_isWord_7 (by decide) (fun c_7 => ?_) (fun c_7 => ?_)
  · replace hf := (if_pos c_7).symm.trans hf
    refine lv_iconst (v := 0) hx hb dX3_isWord_12 (by decide) ?_
    refine lv_istore (lv' := [(4, .int 0), (0, .ref (G.2.1 72)), (1, .int x1), (2, .int x2), (3, .ref (G.2.2.2.2.1 0))]) hx hb dX3_isWord_13 hl (by decide) rfl (fun ls hl => ?_)
    exact w_X3_isWord_0_15 C  FU x1 0 _ hf _ _ _ hR hS (lv_sub hl [1, 2, 4, 0] rfl)
  · replace hf := (if_neg c_7).symm.trans hf
    refine lv_iconst (v := 0) hx hb dX3_isWord_10 (by decide) ?_
    obtain rfl := Option.some.inj hf
    exact x_zret C hR hS dX3_isWord_11 (by first | rfl | decide | (simp only []; split <;> rfl)) ⟨rfl, rfl⟩
def f_X3_isWord_1_15 : Nat → Int32 → Int32 → St → Option (Int32 × St)
  | 0, _, _, _ => none
  | n + 1, x1, x4, σ => bd (f_J0_length_8abf5 1 σ) (fun r18 σ18 => (if r18 ≤ x4 then some (1, σ18) else bd (f_X2_get 74 (x1 + x4) σ18) (fun r32 σ32 => bd (f_J0_charAt_5068e 1 x4 σ32) (fun r38 σ38 => (if r32 = r38 then (f_X3_isWord_1_15 n) x1 (x4 + 1) σ38 else some (0, σ38))))))
def f_X3_isWord_1 (x1 : Int32) (x2 : Int32) (σ : St) : Option (Int32 × St) :=
  bd (f_J0_length_8abf5 1 σ) (fun r4 σ4 => (if (x2 - x1) = r4 then f_X3_isWord_1_15 FU x1 0 σ4 else some (0, σ4)))
set_option maxHeartbeats 4000000 in
set_option maxRecDepth 100000 in
theorem w_X3_isWord_1_15 {p : Program} {l : Launch} {e : Env} {s : State} {m : MethodId} {args : Array Value} {below : List Frame} {meth : Method} {c : Code} {G : GG} (C : Cx p s m args meth c cX3_isWord RX3 wsX3_isWord (some .boolean) 5 G) {res : Int32 × St} : ∀ (n : Nat) (x1 : Int32) (x4 : Int32) (σ : St), f_X3_isWord_1_15 n x1 x4 σ = some res → WC p l e 4 s m args below meth c G (QI G res) 5 15 [(0, .ref (G.2.1 72)), (1, .int x1), (3, .ref (G.2.2.2.2.1 1)), (4, .int x4)] [] σ := by
  have hx := C.1
  have hb := C.2.1
  have inX3 : ∀ w ∈ u_ws RX3 TX3 5, w ∈ wsX3_isWord := fun w h => List.mem_cons_of_mem _ (List.mem_append_left _ (List.mem_append_right _ h))
  intro n
  induction n with
  | zero => intro x1 x4 σ hf; cases hf
  | succ n hrc15 =>
    intro x1 x4 σ hf _ _ _ hR hS hl
    unfold f_X3_isWord_1_15 at hf
    refine lv_iload hx hb dX3_isWord_15 (lv_at hl 3 rfl) ?_
    refine lv_aload_n hx hb dX3_isWord_17 rfl (lv_at hl 2 rfl) ?_
    obtain ⟨r18_, σ18_, hc_18, hf⟩ := bd_some hf
    refine x_cwI C hl.1 hR hS (c_J0_length_8abf5 l G 1 (by decide) σ _ hc_18) gX3_isWord_J0_length_8abf5 rfl hdV_J0_length_8abf5 ⟨Nat.le_of_ble_eq_true rfl, Nat.le_of_ble_eq_true rfl⟩ (vk_recv C.2.2.2.2.2.2.2.2.2.1 (by decide) hS) rfl (As := []) (rest := [.int x4]) rfl (Nat.le_of_ble_eq_true rfl) ⟨Nat.le_of_ble_eq_true rfl, Nat.le_of_ble_eq_true rfl⟩ dX3_isWord_18 (fun r18 σ18 H locs hq_18 hR hS => ?_)
    obtain ⟨rfl, rfl⟩ := hq_18
    refine lv_icmp_ge (tgt := 52) hx hb dX3_isWord_21 (by decide) (fun c_21 => ?_) (fun c_21 => ?_)
    · replace hf := (if_pos c_21).symm.trans hf
      refine lv_iconst (v := 1) hx hb dX3_isWord_52 (by decide) ?_
      obtain rfl := Option.some.inj hf
      exact x_zret C hR hS dX3_isWord_53 (by first | rfl | decide | (simp only []; split <;> rfl)) ⟨rfl, rfl⟩
    · replace hf := (if_neg c_21).symm.trans hf
      refine lv_aload_n hx hb dX3_isWord_24 rfl (lv_at hl 0 rfl) ?_
      refine x_get C hR inX3 72 (by decide) (cz2 rfl) rfl 1 (by decide) 1 rfl (.ref (G.2.1 73)) rfl dX3_isWord_25 ?_
      refine lv_iload_n hx hb dX3_isWord_28 rfl (lv_at hl 1 rfl) ?_
      refine lv_iload hx hb dX3_isWord_29 (lv_at hl 3 rfl) ?_
      refine lv_iadd hx hb dX3_isWord_31 ?_
      obtain ⟨r32_, σ32_, hc_32, hf⟩ := bd_some hf
      refine x_cvI C hl.1 hR hS (c_X2_get l G 74 73 rfl rfl rfl (x1 + x4) σ18 _ hc_32) gX3_isWord_X2_get rfl hdV_X2_get ⟨Nat.le_of_ble_eq_true rfl, Nat.le_of_ble_eq_true rfl⟩ (by decide) (cz1 rfl) rfl rfl (As := [.int (x1 + x4)]) (rest := []) rfl (Nat.le_of_ble_eq_true rfl) ⟨Nat.le_of_ble_eq_true rfl, Nat.le_of_ble_eq_true rfl⟩ dX3_isWord_32 (fun r32 σ32 H locs hq_32 hR hS => ?_)
      obtain ⟨rfl, rfl⟩ := hq_32
      refine lv_aload_n hx hb dX3_isWord_35 rfl (lv_at hl 2 rfl) ?_
      refine lv_iload hx hb dX3_isWord_36 (lv_at hl 3 rfl) ?_
      obtain ⟨r38_, σ38_, hc_38, hf⟩ := bd_some hf
      refine x_cwI C hl.1 hR hS (c_J0_charAt_5068e l G 1 (by decide) x4 σ32 _ hc_38) gX3_isWord_J0_charAt_5068e rfl hdV_J0_charAt_5068e ⟨Nat.le_of_ble_eq_true rfl, Nat.le_of_ble_eq_true rfl⟩ (vk_recv C.2.2.2.2.2.2.2.2.2.1 (by decide) hS) rfl (As := [.int x4]) (rest := [.int r32]) rfl (Nat.le_of_ble_eq_true rfl) ⟨Nat.le_of_ble_eq_true rfl, Nat.le_of_ble_eq_true rfl⟩ dX3_isWord_38 (fun r38 σ38 H locs hq_38 hR hS => ?_)
      obtain ⟨rfl, rfl⟩ := hq_38
      refine lv_icmp_eq (tgt := 46) hx hb dX3_isWord_41 (by decide) (fun c_41 => ?_) (fun c_41 => ?_)
      · replace hf := (if_pos c_41).symm.trans hf
        refine lv_iinc (v := x4 + 1) (lv' := [(4, .int (x4 + 1)), (0, .ref (G.2.1 72)), (1, .int x1), (3, .ref (G.2.2.2.2.1 1))]) hx hb dX3_isWord_46 hl (k := 3) rfl rfl (by decide) rfl (fun ls hl => ?_)
        refine lv_goto (tgt := 15) hx hb dX3_isWord_49 (by decide) ?_
        exact hrc15 x1 (x4 + 1) _ hf _ _ _ hR hS (lv_sub hl [1, 2, 3, 0] rfl)
      · replace hf := (if_neg c_41).symm.trans hf
        refine lv_iconst (v := 0) hx hb dX3_isWord_44 (by decide) ?_
        obtain rfl := Option.some.inj hf
        exact x_zret C hR hS dX3_isWord_45 (by first | rfl | decide | (simp only []; split <;> rfl)) ⟨rfl, rfl⟩
set_option maxHeartbeats 4000000 in
set_option maxRecDepth 100000 in
theorem c_X3_isWord_1 (l : Launch) (G : GG) (x1 : Int32) (x2 : Int32) (σ : St) (res : Int32 × St) (hf : f_X3_isWord_1 x1 x2 σ = some res) : CI l yX3_isWord wsX3_isWord 4 [.ref (G.2.1 72), .int x1, .int x2, .ref (G.2.2.2.2.1 1)] G σ (fun r u => r = res.1 ∧ u = res.2) := by
  refine x_ent (ret := (some .boolean)) cX3_isWord 5 (by decide) rfl (Nat.le_of_ble_eq_true rfl) ?_
  intro p e s m below meth c ls C hR hS hl
  have C : Cx p s m [.ref (G.2.1 72), .int x1, .int x2, .ref (G.2.2.2.2.1 1)].toArray meth c cX3_isWord RX3 wsX3_isWord (some .boolean) 5 G := C
  have hx := C.1
  have hb := C.2.1
  have hl : lv_has ls 5 [(0, .ref (G.2.1 72)), (1, .int x1), (2, .int x2), (3, .ref (G.2.2.2.2.1 1))] := hl
  have inX3 : ∀ w ∈ u_ws RX3 TX3 5, w ∈ wsX3_isWord := fun w h => List.mem_cons_of_mem _ (List.mem_append_left _ (List.mem_append_right _ h))
  unfold f_X3_isWord_1 at hf
  refine lv_iload_n hx hb dX3_isWord_0 rfl (lv_at hl 2 rfl) ?_
  refine lv_iload_n hx hb dX3_isWord_1 rfl (lv_at hl 1 rfl) ?_
  refine lv_isub hx hb dX3_isWord_2 ?_
  refine lv_aload_n hx hb dX3_isWord_3 rfl (lv_at hl 3 rfl) ?_
  obtain ⟨r4_, σ4_, hc_4, hf⟩ := bd_some hf
  refine x_cwI C hl.1 hR hS (c_J0_length_8abf5 l G 1 (by decide) σ _ hc_4) gX3_isWord_J0_length_8abf5 rfl hdV_J0_length_8abf5 ⟨Nat.le_of_ble_eq_true rfl, Nat.le_of_ble_eq_true rfl⟩ (vk_recv C.2.2.2.2.2.2.2.2.2.1 (by decide) hS) rfl (As := []) (rest := [.int (x2 - x1)]) rfl (Nat.le_of_ble_eq_true rfl) ⟨Nat.le_of_ble_eq_true rfl, Nat.le_of_ble_eq_true rfl⟩ dX3_isWord_4 (fun r4 σ4 H locs hq_4 hR hS => ?_)
  obtain ⟨rfl, rfl⟩ := hq_4
  refine lv_icmp_eq (tgt := 12) hx hb dX3_isWord_7 (by decide) (fun c_7 => ?_) (fun c_7 => ?_)
  · replace hf := (if_pos c_7).symm.trans hf
    refine lv_iconst (v := 0) hx hb dX3_isWord_12 (by decide) ?_
    refine lv_istore (lv' := [(4, .int 0), (0, .ref (G.2.1 72)), (1, .int x1), (2, .int x2), (3, .ref (G.2.2.2.2.1 1))]) hx hb dX3_isWord_13 hl (by decide) rfl (fun ls hl => ?_)
    exact w_X3_isWord_1_15 C  FU x1 0 _ hf _ _ _ hR hS (lv_sub hl [1, 2, 4, 0] rfl)
  · replace hf := (if_neg c_7).symm.trans hf
    refine lv_iconst (v := 0) hx hb dX3_isWord_10 (by decide) ?_
    obtain rfl := Option.some.inj hf
    exact x_zret C hR hS dX3_isWord_11 (by first | rfl | decide | (simp only []; split <;> rfl)) ⟨rfl, rfl⟩
theorem hdV_X3_taken : yX3_taken.cls = RX3 ∧ yX3_taken.cls ≠ "java/lang/invoke/MethodHandle" ∧ yX3_taken.cls ≠ "java/lang/invoke/VarHandle" ∧ (parseMethodDescriptor yX3_taken.desc).map (fun d => d.parameters.length) = some 4 := by decide +kernel
def f_X3_taken (x1 : Int32) (x2 : Int32) (x3 : Int32) (σ : St) : Option (Int32 × St) :=
  bd (f_X3_numberAt x2 x3 σ) (fun r3 σ3 => (if x1 = 0 then bd (f_X3_isWord_0 x2 x3 σ3) (fun r57 σ57 => (if r57 = 0 then some (8, σ57) else some (1, σ57))) else (if x1 = 1 then bd (f_X5_within r3 0 9 σ3) (fun r75 σ75 => (if r75 = 0 then some (8, σ75) else bv (f_X0_reset_46 r3 σ75) (fun σ88 => some (2, σ88)))) else (if x1 = 2 then bd (f_X2_get 74 x2 σ3) (fun r98 σ98 => (if r98 = 59 then some (3, σ98) else some (8, σ98))) else (if x1 = 3 then bd (f_X3_isWord_1 x2 x3 σ3) (fun r118 σ118 => (if r118 = 0 then some (8, σ118) else (if 8 ≤ (sI σ118 46 0) then some (8, σ118) else some (4, σ118)))) else (if x1 = 4 then bd (f_X5_within r3 0 5 (pI σ3 72 2 r3)) (fun r151 σ151 => (if r151 = 0 then some (8, σ151) else some (5, σ151))) else (if x1 = 5 then bd (f_X5_within r3 0 1 (pI σ3 72 3 r3)) (fun r174 σ174 => (if r174 = 0 then some (8, σ174) else some (6, σ174))) else (if x1 = 6 then bd (f_X5_within r3 1 20 (pI σ3 72 4 r3)) (fun r199 σ199 => (if r199 = 0 then some (8, σ199) else some (7, σ199))) else bd (f_X2_get 74 x2 σ3) (fun r218 σ218 => (if r218 = 59 then bv (f_X0_addLock_46 (sI σ218 72 2) (sI σ218 72 3) (sI σ218 72 4) σ218) (fun σ243 => some (3, σ243)) else some (8, σ218)))))))))))
set_option maxHeartbeats 4000000 in
set_option maxRecDepth 100000 in
theorem c_X3_taken (l : Launch) (G : GG) (x1 : Int32) (x2 : Int32) (x3 : Int32) (σ : St) (res : Int32 × St) (hf : f_X3_taken x1 x2 x3 σ = some res) : CI l yX3_taken wsX3_taken 5 [.ref (G.2.1 72), .int x1, .int x2, .int x3, .ref (G.2.1 46)] G σ (fun r u => r = res.1 ∧ u = res.2) := by
  refine x_ent (ret := (some .int)) cX3_taken 6 (by decide) rfl (Nat.le_of_ble_eq_true rfl) ?_
  intro p e s m below meth c ls C hR hS hl
  have C : Cx p s m [.ref (G.2.1 72), .int x1, .int x2, .int x3, .ref (G.2.1 46)].toArray meth c cX3_taken RX3 wsX3_taken (some .int) 6 G := C
  have hx := C.1
  have hb := C.2.1
  have hl : lv_has ls 6 [(0, .ref (G.2.1 72)), (1, .int x1), (2, .int x2), (3, .int x3), (4, .ref (G.2.1 46))] := hl
  have inX3 : ∀ w ∈ u_ws RX3 TX3 5, w ∈ wsX3_taken := fun w h => List.mem_cons_of_mem _ (List.mem_append_left _ (List.mem_append_left _ (List.mem_append_right _ h)))
  have inX0 : ∀ w ∈ u_ws RX0 TX0 14, w ∈ wsX3_taken := fun w h => List.mem_cons_of_mem _ (List.mem_append_left _ (List.mem_append_right _ h))
  unfold f_X3_taken at hf
  refine lv_aload_n hx hb dX3_taken_0 rfl (lv_at hl 0 rfl) ?_
  refine lv_iload_n hx hb dX3_taken_1 rfl (lv_at hl 2 rfl) ?_
  refine lv_iload_n hx hb dX3_taken_2 rfl (lv_at hl 3 rfl) ?_
  obtain ⟨r3_, σ3_, hc_3, hf⟩ := bd_some hf
  refine x_cvI C hl.1 hR hS (c_X3_numberAt l G x2 x3 σ _ hc_3) gX3_taken_X3_numberAt rfl hdV_X3_numberAt ⟨Nat.le_of_ble_eq_true rfl, Nat.le_of_ble_eq_true rfl⟩ (by decide) (cz2 rfl) rfl rfl (As := [.int x2, .int x3]) (rest := []) rfl (Nat.le_of_ble_eq_true rfl) ⟨Nat.le_of_ble_eq_true rfl, Nat.le_of_ble_eq_true rfl⟩ dX3_taken_3 (fun r3 σ3 H locs hq_3 hR hS => ?_)
  obtain ⟨rfl, rfl⟩ := hq_3
  refine lv_istore (lv' := [(5, .int r3), (0, .ref (G.2.1 72)), (1, .int x1), (2, .int x2), (3, .int x3), (4, .ref (G.2.1 46))]) hx hb dX3_taken_6 hl (by decide) rfl (fun ls hl => ?_)
  refine lv_iload_n hx hb dX3_taken_8 rfl (lv_at hl 2 rfl) ?_
  by_cases c_9_0 : x1 = 0
  · replace hf := (if_pos c_9_0).symm.trans hf
    refine x_tbl (tgt := 52) (off := 43) hx hb c_9_0 dX3_taken_9 (by decide) (by decide) (by decide) (by decide) ?_
    refine lv_aload_n hx hb dX3_taken_52 rfl (lv_at hl 1 rfl) ?_
    refine lv_iload_n hx hb dX3_taken_53 rfl (lv_at hl 3 rfl) ?_
    refine lv_iload_n hx hb dX3_taken_54 rfl (lv_at hl 4 rfl) ?_
    refine va_ldcS hx hb C.2.2.2.2.1 C.2.2.2.2.2.2.2.2.1.2.2.2.2.1 dX3_taken_55 ?_
    obtain ⟨r57_, σ57_, hc_57, hf⟩ := bd_some hf
    refine x_cvI C hl.1 hR hS (c_X3_isWord_0 l G x2 x3 σ3 _ hc_57) gX3_taken_X3_isWord rfl hdV_X3_isWord ⟨Nat.le_of_ble_eq_true rfl, Nat.le_of_ble_eq_true rfl⟩ (by decide) (cz2 rfl) rfl rfl (As := [.int x2, .int x3, .ref (G.2.2.2.2.1 0)]) (rest := []) rfl (Nat.le_of_ble_eq_true rfl) ⟨Nat.le_of_ble_eq_true rfl, Nat.le_of_ble_eq_true rfl⟩ dX3_taken_57 (fun r57 σ57 H locs hq_57 hR hS => ?_)
    obtain ⟨rfl, rfl⟩ := hq_57
    refine lv_if_eq (tgt := 67) hx hb dX3_taken_60 (by decide) (fun c_60 => ?_) (fun c_60 => ?_)
    · replace hf := (if_pos c_60).symm.trans hf
      refine lv_bipush (v := 8) hx hb dX3_taken_67 (by decide) ?_
      obtain rfl := Option.some.inj hf
      exact x_iret C hR hS dX3_taken_69 ⟨rfl, rfl⟩
    · replace hf := (if_neg c_60).symm.trans hf
      refine lv_iconst (v := 1) hx hb dX3_taken_63 (by decide) ?_
      refine lv_goto (tgt := 69) hx hb dX3_taken_64 (by decide) ?_
      obtain rfl := Option.some.inj hf
      exact x_iret C hR hS dX3_taken_69 ⟨rfl, rfl⟩
  · replace hf := (if_neg c_9_0).symm.trans hf
    by_cases c_9_1 : x1 = 1
    · replace hf := (if_pos c_9_1).symm.trans hf
      refine x_tbl (tgt := 70) (off := 61) hx hb c_9_1 dX3_taken_9 (by decide) (by decide) (by decide) (by decide) ?_
      refine lv_iload hx hb dX3_taken_70 (lv_at hl 0 rfl) ?_
      refine lv_iconst (v := 0) hx hb dX3_taken_72 (by decide) ?_
      refine lv_bipush (v := 9) hx hb dX3_taken_73 (by decide) ?_
      obtain ⟨r75_, σ75_, hc_75, hf⟩ := bd_some hf
      refine x_nsI C hl.1 hR hS (c_X5_within l G r3 0 9 σ3 _ hc_75) gX3_taken_X5_within_n58 C.2.2.2.2.2.2.2.2.1.2.2.1 22 21 rfl rfl rfl hdS_X5_within ⟨Nat.le_of_ble_eq_true rfl, Nat.le_of_ble_eq_true rfl⟩ rfl (As := [.int r3, .int 0, .int 9]) (rest := []) rfl (Nat.le_of_ble_eq_true rfl) ⟨Nat.le_of_ble_eq_true rfl, Nat.le_of_ble_eq_true rfl⟩ dX3_taken_75 (fun r75 σ75 H locs hq_75 hR hS => ?_)
      obtain ⟨rfl, rfl⟩ := hq_75
      refine lv_if_ne (tgt := 84) hx hb dX3_taken_78 (by decide) (fun c_78 => ?_) (fun c_78 => ?_)
      · replace hf := (if_neg c_78).symm.trans hf
        refine lv_aload hx hb dX3_taken_84 (lv_at hl 5 rfl) ?_
        refine lv_iload hx hb dX3_taken_86 (lv_at hl 0 rfl) ?_
        obtain ⟨σ88_, hc_88, hf⟩ := bv_some hf
        refine x_cvV C hl.1 hR hS (c_X0_reset_46 l G r3 σ75 _ hc_88) gX3_taken_X0_reset rfl hdV_X0_reset ⟨Nat.le_of_ble_eq_true rfl, Nat.le_of_ble_eq_true rfl⟩ (by decide) (cz0 rfl) rfl rfl (As := [.int r3]) (rest := []) rfl (Nat.le_of_ble_eq_true rfl) ⟨Nat.le_of_ble_eq_true rfl, Nat.le_of_ble_eq_true rfl⟩ dX3_taken_88 (fun σ88 H locs hq_88 hR hS => ?_)
        subst hq_88
        refine lv_iconst (v := 2) hx hb dX3_taken_91 (by decide) ?_
        obtain rfl := Option.some.inj hf
        exact x_iret C hR hS dX3_taken_92 ⟨rfl, rfl⟩
      · replace hf := (if_pos c_78).symm.trans hf
        refine lv_bipush (v := 8) hx hb dX3_taken_81 (by decide) ?_
        obtain rfl := Option.some.inj hf
        exact x_iret C hR hS dX3_taken_83 ⟨rfl, rfl⟩
    · replace hf := (if_neg c_9_1).symm.trans hf
      by_cases c_9_2 : x1 = 2
      · replace hf := (if_pos c_9_2).symm.trans hf
        refine x_tbl (tgt := 93) (off := 84) hx hb c_9_2 dX3_taken_9 (by decide) (by decide) (by decide) (by decide) ?_
        refine lv_aload_n hx hb dX3_taken_93 rfl (lv_at hl 1 rfl) ?_
        refine x_get C hR inX3 72 (by decide) (cz2 rfl) rfl 1 (by decide) 1 rfl (.ref (G.2.1 73)) rfl dX3_taken_94 ?_
        refine lv_iload_n hx hb dX3_taken_97 rfl (lv_at hl 3 rfl) ?_
        obtain ⟨r98_, σ98_, hc_98, hf⟩ := bd_some hf
        refine x_cvI C hl.1 hR hS (c_X2_get l G 74 73 rfl rfl rfl x2 σ3 _ hc_98) gX3_taken_X2_get rfl hdV_X2_get ⟨Nat.le_of_ble_eq_true rfl, Nat.le_of_ble_eq_true rfl⟩ (by decide) (cz1 rfl) rfl rfl (As := [.int x2]) (rest := []) rfl (Nat.le_of_ble_eq_true rfl) ⟨Nat.le_of_ble_eq_true rfl, Nat.le_of_ble_eq_true rfl⟩ dX3_taken_98 (fun r98 σ98 H locs hq_98 hR hS => ?_)
        obtain ⟨rfl, rfl⟩ := hq_98
        refine lv_bipush (v := 59) hx hb dX3_taken_101 (by decide) ?_
        refine lv_icmp_ne (tgt := 110) hx hb dX3_taken_103 (by decide) (fun c_103 => ?_) (fun c_103 => ?_)
        · replace hf := (if_neg c_103).symm.trans hf
          refine lv_bipush (v := 8) hx hb dX3_taken_110 (by decide) ?_
          obtain rfl := Option.some.inj hf
          exact x_iret C hR hS dX3_taken_112 ⟨rfl, rfl⟩
        · replace hf := (if_pos c_103).symm.trans hf
          refine lv_iconst (v := 3) hx hb dX3_taken_106 (by decide) ?_
          refine lv_goto (tgt := 112) hx hb dX3_taken_107 (by decide) ?_
          obtain rfl := Option.some.inj hf
          exact x_iret C hR hS dX3_taken_112 ⟨rfl, rfl⟩
      · replace hf := (if_neg c_9_2).symm.trans hf
        by_cases c_9_3 : x1 = 3
        · replace hf := (if_pos c_9_3).symm.trans hf
          refine x_tbl (tgt := 113) (off := 104) hx hb c_9_3 dX3_taken_9 (by decide) (by decide) (by decide) (by decide) ?_
          refine lv_aload_n hx hb dX3_taken_113 rfl (lv_at hl 1 rfl) ?_
          refine lv_iload_n hx hb dX3_taken_114 rfl (lv_at hl 3 rfl) ?_
          refine lv_iload_n hx hb dX3_taken_115 rfl (lv_at hl 4 rfl) ?_
          refine va_ldcS hx hb C.2.2.2.2.1 C.2.2.2.2.2.2.2.2.1.2.2.2.2.2 dX3_taken_116 ?_
          obtain ⟨r118_, σ118_, hc_118, hf⟩ := bd_some hf
          refine x_cvI C hl.1 hR hS (c_X3_isWord_1 l G x2 x3 σ3 _ hc_118) gX3_taken_X3_isWord rfl hdV_X3_isWord ⟨Nat.le_of_ble_eq_true rfl, Nat.le_of_ble_eq_true rfl⟩ (by decide) (cz2 rfl) rfl rfl (As := [.int x2, .int x3, .ref (G.2.2.2.2.1 1)]) (rest := []) rfl (Nat.le_of_ble_eq_true rfl) ⟨Nat.le_of_ble_eq_true rfl, Nat.le_of_ble_eq_true rfl⟩ dX3_taken_118 (fun r118 σ118 H locs hq_118 hR hS => ?_)
          obtain ⟨rfl, rfl⟩ := hq_118
          refine lv_if_eq (tgt := 138) hx hb dX3_taken_121 (by decide) (fun c_121 => ?_) (fun c_121 => ?_)
          · replace hf := (if_pos c_121).symm.trans hf
            refine lv_bipush (v := 8) hx hb dX3_taken_138 (by decide) ?_
            obtain rfl := Option.some.inj hf
            exact x_iret C hR hS dX3_taken_140 ⟨rfl, rfl⟩
          · replace hf := (if_neg c_121).symm.trans hf
            refine lv_aload hx hb dX3_taken_124 (lv_at hl 5 rfl) ?_
            refine x_get C hR inX0 46 (by decide) (cz0 rfl) rfl 0 (by decide) 2 rfl (.int (sI σ118 46 0)) rfl dX3_taken_126 ?_
            refine lv_bipush (v := 8) hx hb dX3_taken_129 (by decide) ?_
            refine lv_icmp_ge (tgt := 138) hx hb dX3_taken_131 (by decide) (fun c_131 => ?_) (fun c_131 => ?_)
            · replace hf := (if_pos c_131).symm.trans hf
              refine lv_bipush (v := 8) hx hb dX3_taken_138 (by decide) ?_
              obtain rfl := Option.some.inj hf
              exact x_iret C hR hS dX3_taken_140 ⟨rfl, rfl⟩
            · replace hf := (if_neg c_131).symm.trans hf
              refine lv_iconst (v := 4) hx hb dX3_taken_134 (by decide) ?_
              refine lv_goto (tgt := 140) hx hb dX3_taken_135 (by decide) ?_
              obtain rfl := Option.some.inj hf
              exact x_iret C hR hS dX3_taken_140 ⟨rfl, rfl⟩
        · replace hf := (if_neg c_9_3).symm.trans hf
          by_cases c_9_4 : x1 = 4
          · replace hf := (if_pos c_9_4).symm.trans hf
            refine x_tbl (tgt := 141) (off := 132) hx hb c_9_4 dX3_taken_9 (by decide) (by decide) (by decide) (by decide) ?_
            refine lv_aload_n hx hb dX3_taken_141 rfl (lv_at hl 1 rfl) ?_
            refine lv_iload hx hb dX3_taken_142 (lv_at hl 0 rfl) ?_
            refine x_put (τ := (pI σ3 72 2 r3)) C hR hS inX3 tyX3 tyX3_ok nmX3 72 (by decide) (cz2 rfl) rfl 2 (by decide) (pfI2_2 rfl) pI_o 3 rfl rfl rfl rfl (Nat.le_of_ble_eq_true rfl) dX3_taken_144 (fun H locs hR hS => ?_)
            refine lv_iload hx hb dX3_taken_147 (lv_at hl 0 rfl) ?_
            refine lv_iconst (v := 0) hx hb dX3_taken_149 (by decide) ?_
            refine lv_iconst (v := 5) hx hb dX3_taken_150 (by decide) ?_
            obtain ⟨r151_, σ151_, hc_151, hf⟩ := bd_some hf
            refine x_nsI C hl.1 hR hS (c_X5_within l G r3 0 5 (pI σ3 72 2 r3) _ hc_151) gX3_taken_X5_within_n58 C.2.2.2.2.2.2.2.2.1.2.2.1 22 21 rfl rfl rfl hdS_X5_within ⟨Nat.le_of_ble_eq_true rfl, Nat.le_of_ble_eq_true rfl⟩ rfl (As := [.int r3, .int 0, .int 5]) (rest := []) rfl (Nat.le_of_ble_eq_true rfl) ⟨Nat.le_of_ble_eq_true rfl, Nat.le_of_ble_eq_true rfl⟩ dX3_taken_151 (fun r151 σ151 H locs hq_151 hR hS => ?_)
            obtain ⟨rfl, rfl⟩ := hq_151
            refine lv_if_eq (tgt := 161) hx hb dX3_taken_154 (by decide) (fun c_154 => ?_) (fun c_154 => ?_)
            · replace hf := (if_pos c_154).symm.trans hf
              refine lv_bipush (v := 8) hx hb dX3_taken_161 (by decide) ?_
              obtain rfl := Option.some.inj hf
              exact x_iret C hR hS dX3_taken_163 ⟨rfl, rfl⟩
            · replace hf := (if_neg c_154).symm.trans hf
              refine lv_iconst (v := 5) hx hb dX3_taken_157 (by decide) ?_
              refine lv_goto (tgt := 163) hx hb dX3_taken_158 (by decide) ?_
              obtain rfl := Option.some.inj hf
              exact x_iret C hR hS dX3_taken_163 ⟨rfl, rfl⟩
          · replace hf := (if_neg c_9_4).symm.trans hf
            by_cases c_9_5 : x1 = 5
            · replace hf := (if_pos c_9_5).symm.trans hf
              refine x_tbl (tgt := 164) (off := 155) hx hb c_9_5 dX3_taken_9 (by decide) (by decide) (by decide) (by decide) ?_
              refine lv_aload_n hx hb dX3_taken_164 rfl (lv_at hl 1 rfl) ?_
              refine lv_iload hx hb dX3_taken_165 (lv_at hl 0 rfl) ?_
              refine x_put (τ := (pI σ3 72 3 r3)) C hR hS inX3 tyX3 tyX3_ok nmX3 72 (by decide) (cz2 rfl) rfl 3 (by decide) (pfI2_3 rfl) pI_o 4 rfl rfl rfl rfl (Nat.le_of_ble_eq_true rfl) dX3_taken_167 (fun H locs hR hS => ?_)
              refine lv_iload hx hb dX3_taken_170 (lv_at hl 0 rfl) ?_
              refine lv_iconst (v := 0) hx hb dX3_taken_172 (by decide) ?_
              refine lv_iconst (v := 1) hx hb dX3_taken_173 (by decide) ?_
              obtain ⟨r174_, σ174_, hc_174, hf⟩ := bd_some hf
              refine x_nsI C hl.1 hR hS (c_X5_within l G r3 0 1 (pI σ3 72 3 r3) _ hc_174) gX3_taken_X5_within_n58 C.2.2.2.2.2.2.2.2.1.2.2.1 22 21 rfl rfl rfl hdS_X5_within ⟨Nat.le_of_ble_eq_true rfl, Nat.le_of_ble_eq_true rfl⟩ rfl (As := [.int r3, .int 0, .int 1]) (rest := []) rfl (Nat.le_of_ble_eq_true rfl) ⟨Nat.le_of_ble_eq_true rfl, Nat.le_of_ble_eq_true rfl⟩ dX3_taken_174 (fun r174 σ174 H locs hq_174 hR hS => ?_)
              obtain ⟨rfl, rfl⟩ := hq_174
              refine lv_if_eq (tgt := 185) hx hb dX3_taken_177 (by decide) (fun c_177 => ?_) (fun c_177 => ?_)
              · replace hf := (if_pos c_177).symm.trans hf
                refine lv_bipush (v := 8) hx hb dX3_taken_185 (by decide) ?_
                obtain rfl := Option.some.inj hf
                exact x_iret C hR hS dX3_taken_187 ⟨rfl, rfl⟩
              · replace hf := (if_neg c_177).symm.trans hf
                refine lv_bipush (v := 6) hx hb dX3_taken_180 (by decide) ?_
                refine lv_goto (tgt := 187) hx hb dX3_taken_182 (by decide) ?_
                obtain rfl := Option.some.inj hf
                exact x_iret C hR hS dX3_taken_187 ⟨rfl, rfl⟩
            · replace hf := (if_neg c_9_5).symm.trans hf
              by_cases c_9_6 : x1 = 6
              · replace hf := (if_pos c_9_6).symm.trans hf
                refine x_tbl (tgt := 188) (off := 179) hx hb c_9_6 dX3_taken_9 (by decide) (by decide) (by decide) (by decide) ?_
                refine lv_aload_n hx hb dX3_taken_188 rfl (lv_at hl 1 rfl) ?_
                refine lv_iload hx hb dX3_taken_189 (lv_at hl 0 rfl) ?_
                refine x_put (τ := (pI σ3 72 4 r3)) C hR hS inX3 tyX3 tyX3_ok nmX3 72 (by decide) (cz2 rfl) rfl 4 (by decide) (pfI2_4 rfl) pI_o 5 rfl rfl rfl rfl (Nat.le_of_ble_eq_true rfl) dX3_taken_191 (fun H locs hR hS => ?_)
                refine lv_iload hx hb dX3_taken_194 (lv_at hl 0 rfl) ?_
                refine lv_iconst (v := 1) hx hb dX3_taken_196 (by decide) ?_
                refine lv_bipush (v := 20) hx hb dX3_taken_197 (by decide) ?_
                obtain ⟨r199_, σ199_, hc_199, hf⟩ := bd_some hf
                refine x_nsI C hl.1 hR hS (c_X5_within l G r3 1 20 (pI σ3 72 4 r3) _ hc_199) gX3_taken_X5_within_n58 C.2.2.2.2.2.2.2.2.1.2.2.1 22 21 rfl rfl rfl hdS_X5_within ⟨Nat.le_of_ble_eq_true rfl, Nat.le_of_ble_eq_true rfl⟩ rfl (As := [.int r3, .int 1, .int 20]) (rest := []) rfl (Nat.le_of_ble_eq_true rfl) ⟨Nat.le_of_ble_eq_true rfl, Nat.le_of_ble_eq_true rfl⟩ dX3_taken_199 (fun r199 σ199 H locs hq_199 hR hS => ?_)
                obtain ⟨rfl, rfl⟩ := hq_199
                refine lv_if_eq (tgt := 210) hx hb dX3_taken_202 (by decide) (fun c_202 => ?_) (fun c_202 => ?_)
                · replace hf := (if_pos c_202).symm.trans hf
                  refine lv_bipush (v := 8) hx hb dX3_taken_210 (by decide) ?_
                  obtain rfl := Option.some.inj hf
                  exact x_iret C hR hS dX3_taken_212 ⟨rfl, rfl⟩
                · replace hf := (if_neg c_202).symm.trans hf
                  refine lv_bipush (v := 7) hx hb dX3_taken_205 (by decide) ?_
                  refine lv_goto (tgt := 212) hx hb dX3_taken_207 (by decide) ?_
                  obtain rfl := Option.some.inj hf
                  exact x_iret C hR hS dX3_taken_212 ⟨rfl, rfl⟩
              · replace hf := (if_neg c_9_6).symm.trans hf
                have n_9_0 : Int32.toInt x1 ≠ 0 := x_ne c_9_0
                have n_9_1 : Int32.toInt x1 ≠ 1 := x_ne c_9_1
                have n_9_2 : Int32.toInt x1 ≠ 2 := x_ne c_9_2
                have n_9_3 : Int32.toInt x1 ≠ 3 := x_ne c_9_3
                have n_9_4 : Int32.toInt x1 ≠ 4 := x_ne c_9_4
                have n_9_5 : Int32.toInt x1 ≠ 5 := x_ne c_9_5
                have n_9_6 : Int32.toInt x1 ≠ 6 := x_ne c_9_6
                refine lv_tableOut (tgt := 213) hx hb dX3_taken_9 (by omega) (by decide) ?_
                refine lv_aload_n hx hb dX3_taken_213 rfl (lv_at hl 1 rfl) ?_
                refine x_get C hR inX3 72 (by decide) (cz2 rfl) rfl 1 (by decide) 1 rfl (.ref (G.2.1 73)) rfl dX3_taken_214 ?_
                refine lv_iload_n hx hb dX3_taken_217 rfl (lv_at hl 3 rfl) ?_
                obtain ⟨r218_, σ218_, hc_218, hf⟩ := bd_some hf
                refine x_cvI C hl.1 hR hS (c_X2_get l G 74 73 rfl rfl rfl x2 σ3 _ hc_218) gX3_taken_X2_get rfl hdV_X2_get ⟨Nat.le_of_ble_eq_true rfl, Nat.le_of_ble_eq_true rfl⟩ (by decide) (cz1 rfl) rfl rfl (As := [.int x2]) (rest := []) rfl (Nat.le_of_ble_eq_true rfl) ⟨Nat.le_of_ble_eq_true rfl, Nat.le_of_ble_eq_true rfl⟩ dX3_taken_218 (fun r218 σ218 H locs hq_218 hR hS => ?_)
                obtain ⟨rfl, rfl⟩ := hq_218
                refine lv_bipush (v := 59) hx hb dX3_taken_221 (by decide) ?_
                refine lv_icmp_eq (tgt := 229) hx hb dX3_taken_223 (by decide) (fun c_223 => ?_) (fun c_223 => ?_)
                · replace hf := (if_pos c_223).symm.trans hf
                  refine lv_aload hx hb dX3_taken_229 (lv_at hl 5 rfl) ?_
                  refine lv_aload_n hx hb dX3_taken_231 rfl (lv_at hl 1 rfl) ?_
                  refine x_get C hR inX3 72 (by decide) (cz2 rfl) rfl 2 (by decide) 3 rfl (.int (sI σ218 72 2)) rfl dX3_taken_232 ?_
                  refine lv_aload_n hx hb dX3_taken_235 rfl (lv_at hl 1 rfl) ?_
                  refine x_get C hR inX3 72 (by decide) (cz2 rfl) rfl 3 (by decide) 4 rfl (.int (sI σ218 72 3)) rfl dX3_taken_236 ?_
                  refine lv_aload_n hx hb dX3_taken_239 rfl (lv_at hl 1 rfl) ?_
                  refine x_get C hR inX3 72 (by decide) (cz2 rfl) rfl 4 (by decide) 5 rfl (.int (sI σ218 72 4)) rfl dX3_taken_240 ?_
                  obtain ⟨σ243_, hc_243, hf⟩ := bv_some hf
                  refine x_cvV C hl.1 hR hS (c_X0_addLock_46 l G (sI σ218 72 2) (sI σ218 72 3) (sI σ218 72 4) σ218 _ hc_243) gX3_taken_X0_addLock rfl hdV_X0_addLock ⟨Nat.le_of_ble_eq_true rfl, Nat.le_of_ble_eq_true rfl⟩ (by decide) (cz0 rfl) rfl rfl (As := [.int (sI σ218 72 2), .int (sI σ218 72 3), .int (sI σ218 72 4)]) (rest := []) rfl (Nat.le_of_ble_eq_true rfl) ⟨Nat.le_of_ble_eq_true rfl, Nat.le_of_ble_eq_true rfl⟩ dX3_taken_243 (fun σ243 H locs hq_243 hR hS => ?_)
                  subst hq_243
                  refine lv_iconst (v := 3) hx hb dX3_taken_246 (by decide) ?_
                  obtain rfl := Option.some.inj hf
                  exact x_iret C hR hS dX3_taken_247 ⟨rfl, rfl⟩
                · replace hf := (if_neg c_223).symm.trans hf
                  refine lv_bipush (v := 8) hx hb dX3_taken_226 (by decide) ?_
                  obtain rfl := Option.some.inj hf
                  exact x_iret C hR hS dX3_taken_228 ⟨rfl, rfl⟩
theorem hdV_X3_faultInto : yX3_faultInto.cls = RX3 ∧ yX3_faultInto.cls ≠ "java/lang/invoke/MethodHandle" ∧ yX3_faultInto.cls ≠ "java/lang/invoke/VarHandle" ∧ (parseMethodDescriptor yX3_faultInto.desc).map (fun d => d.parameters.length) = some 1 := by decide +kernel
def f_X3_faultInto_65 (x2 : Int32) (σ : St) : Option (Int32 × St) :=
  (if x2 = 3 then some ((-1), σ) else some (sI σ 72 0, σ))
def f_X3_faultInto_11 : Nat → Int32 → Int32 → Int32 → St → Option (Int32 × St)
  | 0, _, _, _, _ => none
  | n + 1, x2, x3, x4, σ => (if 150 ≤ x4 then f_X3_faultInto_65 x2 σ else (if (sI σ 72 0) ≤ x3 then f_X3_faultInto_65 x2 σ else bd (f_X3_tokenEnd x3 σ) (fun r29 σ29 => bd (f_X3_taken x2 x3 r29 σ29) (fun r40 σ40 => (if r40 = 8 then some (x3, σ40) else bd (f_X3_behindBlanks r29 σ40) (fun r55 σ55 => (f_X3_faultInto_11 n) r40 r55 (x4 + 1) σ55))))))
def f_X3_faultInto (σ : St) : Option (Int32 × St) :=
  bd (f_X3_behindBlanks 0 σ) (fun r4 σ4 => f_X3_faultInto_11 FU 0 r4 0 σ4)
set_option maxHeartbeats 4000000 in
set_option maxRecDepth 100000 in
theorem w_X3_faultInto_65 {p : Program} {l : Launch} {e : Env} {s : State} {m : MethodId} {args : Array Value} {below : List Frame} {meth : Method} {c : Code} {G : GG} (C : Cx p s m args meth c cX3_faultInto RX3 wsX3_faultInto (some .int) 6 G) {res : Int32 × St} : ∀ (x2 : Int32) (σ : St), f_X3_faultInto_65 x2 σ = some res → WC p l e 6 s m args below meth c G (QI G res) 6 65 [(0, .ref (G.2.1 72)), (2, .int x2)] [] σ := by
  have hx := C.1
  have hb := C.2.1
  have inX3 : ∀ w ∈ u_ws RX3 TX3 5, w ∈ wsX3_faultInto := fun w h => List.mem_cons_of_mem _ (List.mem_append_left _ (List.mem_append_left _ (List.mem_append_right _ h)))
  intro x2 σ hf _ _ _ hR hS hl
  unfold f_X3_faultInto_65 at hf
  refine lv_iload_n hx hb dX3_faultInto_65 rfl (lv_at hl 1 rfl) ?_
  refine lv_iconst (v := 3) hx hb dX3_faultInto_66 (by decide) ?_
  refine lv_icmp_ne (tgt := 74) hx hb dX3_faultInto_67 (by decide) (fun c_67 => ?_) (fun c_67 => ?_)
  · replace hf := (if_neg c_67).symm.trans hf
    refine lv_aload_n hx hb dX3_faultInto_74 rfl (lv_at hl 0 rfl) ?_
    refine x_get C hR inX3 72 (by decide) (cz2 rfl) rfl 0 (by decide) 1 rfl (.int (sI σ 72 0)) rfl dX3_faultInto_75 ?_
    obtain rfl := Option.some.inj hf
    exact x_iret C hR hS dX3_faultInto_78 ⟨rfl, rfl⟩
  · replace hf := (if_pos c_67).symm.trans hf
    refine lv_iconst (v := (-1)) hx hb dX3_faultInto_70 (by decide) ?_
    refine lv_goto (tgt := 78) hx hb dX3_faultInto_71 (by decide) ?_
    obtain rfl := Option.some.inj hf
    exact x_iret C hR hS dX3_faultInto_78 ⟨rfl, rfl⟩
set_option maxHeartbeats 4000000 in
set_option maxRecDepth 100000 in
theorem w_X3_faultInto_11 {p : Program} {l : Launch} {e : Env} {s : State} {m : MethodId} {args : Array Value} {below : List Frame} {meth : Method} {c : Code} {G : GG} (C : Cx p s m args meth c cX3_faultInto RX3 wsX3_faultInto (some .int) 6 G) {res : Int32 × St} : ∀ (n : Nat) (x2 : Int32) (x3 : Int32) (x4 : Int32) (σ : St), f_X3_faultInto_11 n x2 x3 x4 σ = some res → WC p l e 6 s m args below meth c G (QI G res) 6 11 [(0, .ref (G.2.1 72)), (1, .ref (G.2.1 46)), (2, .int x2), (3, .int x3), (4, .int x4)] [] σ := by
  have hx := C.1
  have hb := C.2.1
  have inX3 : ∀ w ∈ u_ws RX3 TX3 5, w ∈ wsX3_faultInto := fun w h => List.mem_cons_of_mem _ (List.mem_append_left _ (List.mem_append_left _ (List.mem_append_right _ h)))
  intro n
  induction n with
  | zero => intro x2 x3 x4 σ hf; cases hf
  | succ n hrc11 =>
    intro x2 x3 x4 σ hf _ _ _ hR hS hl
    unfold f_X3_faultInto_11 at hf
    refine lv_iload hx hb dX3_faultInto_11 (lv_at hl 4 rfl) ?_
    refine lv_sipush (v := 150) hx hb dX3_faultInto_13 (by decide) ?_
    refine lv_icmp_ge (tgt := 65) hx hb dX3_faultInto_16 (by decide) (fun c_16 => ?_) (fun c_16 => ?_)
    · replace hf := (if_pos c_16).symm.trans hf
      exact w_X3_faultInto_65 C  x2 _ hf _ _ _ hR hS (lv_sub hl [0, 2] rfl)
    · replace hf := (if_neg c_16).symm.trans hf
      refine lv_iload_n hx hb dX3_faultInto_19 rfl (lv_at hl 3 rfl) ?_
      refine lv_aload_n hx hb dX3_faultInto_20 rfl (lv_at hl 0 rfl) ?_
      refine x_get C hR inX3 72 (by decide) (cz2 rfl) rfl 0 (by decide) 1 rfl (.int (sI σ 72 0)) rfl dX3_faultInto_21 ?_
      refine lv_icmp_ge (tgt := 65) hx hb dX3_faultInto_24 (by decide) (fun c_24 => ?_) (fun c_24 => ?_)
      · replace hf := (if_pos c_24).symm.trans hf
        exact w_X3_faultInto_65 C  x2 _ hf _ _ _ hR hS (lv_sub hl [0, 2] rfl)
      · replace hf := (if_neg c_24).symm.trans hf
        refine lv_aload_n hx hb dX3_faultInto_27 rfl (lv_at hl 0 rfl) ?_
        refine lv_iload_n hx hb dX3_faultInto_28 rfl (lv_at hl 3 rfl) ?_
        obtain ⟨r29_, σ29_, hc_29, hf⟩ := bd_some hf
        refine x_cvI C hl.1 hR hS (c_X3_tokenEnd l G x3 σ _ hc_29) gX3_faultInto_X3_tokenEnd rfl hdV_X3_tokenEnd ⟨Nat.le_of_ble_eq_true rfl, Nat.le_of_ble_eq_true rfl⟩ (by decide) (cz2 rfl) rfl rfl (As := [.int x3]) (rest := []) rfl (Nat.le_of_ble_eq_true rfl) ⟨Nat.le_of_ble_eq_true rfl, Nat.le_of_ble_eq_true rfl⟩ dX3_faultInto_29 (fun r29 σ29 H locs hq_29 hR hS => ?_)
        obtain ⟨rfl, rfl⟩ := hq_29
        refine lv_istore (lv' := [(5, .int r29), (0, .ref (G.2.1 72)), (1, .ref (G.2.1 46)), (2, .int x2), (3, .int x3), (4, .int x4)]) hx hb dX3_faultInto_32 hl (by decide) rfl (fun ls hl => ?_)
        refine lv_aload_n hx hb dX3_faultInto_34 rfl (lv_at hl 1 rfl) ?_
        refine lv_iload_n hx hb dX3_faultInto_35 rfl (lv_at hl 3 rfl) ?_
        refine lv_iload_n hx hb dX3_faultInto_36 rfl (lv_at hl 4 rfl) ?_
        refine lv_iload hx hb dX3_faultInto_37 (lv_at hl 0 rfl) ?_
        refine lv_aload_n hx hb dX3_faultInto_39 rfl (lv_at hl 2 rfl) ?_
        obtain ⟨r40_, σ40_, hc_40, hf⟩ := bd_some hf
        refine x_cvI C hl.1 hR hS (c_X3_taken l G x2 x3 r29 σ29 _ hc_40) gX3_faultInto_X3_taken rfl hdV_X3_taken ⟨Nat.le_of_ble_eq_true rfl, Nat.le_of_ble_eq_true rfl⟩ (by decide) (cz2 rfl) rfl rfl (As := [.int x2, .int x3, .int r29, .ref (G.2.1 46)]) (rest := []) rfl (Nat.le_of_ble_eq_true rfl) ⟨Nat.le_of_ble_eq_true rfl, Nat.le_of_ble_eq_true rfl⟩ dX3_faultInto_40 (fun r40 σ40 H locs hq_40 hR hS => ?_)
        obtain ⟨rfl, rfl⟩ := hq_40
        refine lv_istore_n (lv' := [(2, .int r40), (5, .int r29), (0, .ref (G.2.1 72)), (1, .ref (G.2.1 46)), (3, .int x3), (4, .int x4)]) hx hb dX3_faultInto_43 rfl hl (by decide) rfl (fun ls hl => ?_)
        refine lv_iload_n hx hb dX3_faultInto_44 rfl (lv_at hl 0 rfl) ?_
        refine lv_bipush (v := 8) hx hb dX3_faultInto_45 (by decide) ?_
        refine lv_icmp_ne (tgt := 52) hx hb dX3_faultInto_47 (by decide) (fun c_47 => ?_) (fun c_47 => ?_)
        · replace hf := (if_neg c_47).symm.trans hf
          refine lv_aload_n hx hb dX3_faultInto_52 rfl (lv_at hl 2 rfl) ?_
          refine lv_iload hx hb dX3_faultInto_53 (lv_at hl 1 rfl) ?_
          obtain ⟨r55_, σ55_, hc_55, hf⟩ := bd_some hf
          refine x_cvI C hl.1 hR hS (c_X3_behindBlanks l G r29 σ40 _ hc_55) gX3_faultInto_X3_behindBlanks rfl hdV_X3_behindBlanks ⟨Nat.le_of_ble_eq_true rfl, Nat.le_of_ble_eq_true rfl⟩ (by decide) (cz2 rfl) rfl rfl (As := [.int r29]) (rest := []) rfl (Nat.le_of_ble_eq_true rfl) ⟨Nat.le_of_ble_eq_true rfl, Nat.le_of_ble_eq_true rfl⟩ dX3_faultInto_55 (fun r55 σ55 H locs hq_55 hR hS => ?_)
          obtain ⟨rfl, rfl⟩ := hq_55
          refine lv_istore_n (lv' := [(3, .int r55), (2, .int r40), (5, .int r29), (0, .ref (G.2.1 72)), (1, .ref (G.2.1 46)), (4, .int x4)]) hx hb dX3_faultInto_58 rfl hl (by decide) rfl (fun ls hl => ?_)
          refine lv_iinc (v := x4 + 1) (lv' := [(4, .int (x4 + 1)), (3, .int r55), (2, .int r40), (5, .int r29), (0, .ref (G.2.1 72)), (1, .ref (G.2.1 46))]) hx hb dX3_faultInto_59 hl (k := 5) rfl rfl (by decide) rfl (fun ls hl => ?_)
          refine lv_goto (tgt := 11) hx hb dX3_faultInto_62 (by decide) ?_
          exact hrc11 r40 r55 (x4 + 1) _ hf _ _ _ hR hS (lv_sub hl [4, 5, 2, 1, 0] rfl)
        · replace hf := (if_pos c_47).symm.trans hf
          refine lv_iload_n hx hb dX3_faultInto_50 rfl (lv_at hl 4 rfl) ?_
          obtain rfl := Option.some.inj hf
          exact x_iret C hR hS dX3_faultInto_51 ⟨rfl, rfl⟩
set_option maxHeartbeats 4000000 in
set_option maxRecDepth 100000 in
theorem c_X3_faultInto (l : Launch) (G : GG) (σ : St) (res : Int32 × St) (hf : f_X3_faultInto σ = some res) : CI l yX3_faultInto wsX3_faultInto 6 [.ref (G.2.1 72), .ref (G.2.1 46)] G σ (fun r u => r = res.1 ∧ u = res.2) := by
  refine x_ent (ret := (some .int)) cX3_faultInto 6 (by decide) rfl (Nat.le_of_ble_eq_true rfl) ?_
  intro p e s m below meth c ls C hR hS hl
  have C : Cx p s m [.ref (G.2.1 72), .ref (G.2.1 46)].toArray meth c cX3_faultInto RX3 wsX3_faultInto (some .int) 6 G := C
  have hx := C.1
  have hb := C.2.1
  have hl : lv_has ls 6 [(0, .ref (G.2.1 72)), (1, .ref (G.2.1 46))] := hl
  have inX3 : ∀ w ∈ u_ws RX3 TX3 5, w ∈ wsX3_faultInto := fun w h => List.mem_cons_of_mem _ (List.mem_append_left _ (List.mem_append_left _ (List.mem_append_right _ h)))
  unfold f_X3_faultInto at hf
  refine lv_iconst (v := 0) hx hb dX3_faultInto_0 (by decide) ?_
  refine lv_istore_n (lv' := [(2, .int 0), (0, .ref (G.2.1 72)), (1, .ref (G.2.1 46))]) hx hb dX3_faultInto_1 rfl hl (by decide) rfl (fun ls hl => ?_)
  refine lv_aload_n hx hb dX3_faultInto_2 rfl (lv_at hl 1 rfl) ?_
  refine lv_iconst (v := 0) hx hb dX3_faultInto_3 (by decide) ?_
  obtain ⟨r4_, σ4_, hc_4, hf⟩ := bd_some hf
  refine x_cvI C hl.1 hR hS (c_X3_behindBlanks l G 0 σ _ hc_4) gX3_faultInto_X3_behindBlanks rfl hdV_X3_behindBlanks ⟨Nat.le_of_ble_eq_true rfl, Nat.le_of_ble_eq_true rfl⟩ (by decide) (cz2 rfl) rfl rfl (As := [.int 0]) (rest := []) rfl (Nat.le_of_ble_eq_true rfl) ⟨Nat.le_of_ble_eq_true rfl, Nat.le_of_ble_eq_true rfl⟩ dX3_faultInto_4 (fun r4 σ4 H locs hq_4 hR hS => ?_)
  obtain ⟨rfl, rfl⟩ := hq_4
  refine lv_istore_n (lv' := [(3, .int r4), (2, .int 0), (0, .ref (G.2.1 72)), (1, .ref (G.2.1 46))]) hx hb dX3_faultInto_7 rfl hl (by decide) rfl (fun ls hl => ?_)
  refine lv_iconst (v := 0) hx hb dX3_faultInto_8 (by decide) ?_
  refine lv_istore (lv' := [(4, .int 0), (3, .int r4), (2, .int 0), (0, .ref (G.2.1 72)), (1, .ref (G.2.1 46))]) hx hb dX3_faultInto_9 hl (by decide) rfl (fun ls hl => ?_)
  exact w_X3_faultInto_11 C  FU 0 r4 0 _ hf _ _ _ hR hS (lv_sub hl [3, 4, 2, 1, 0] rfl)
