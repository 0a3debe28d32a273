theorem hdV_X2_get : yX2_get.cls = RX2 ∧ yX2_get.cls ≠ "java/lang/invoke/MethodHandle" ∧ yX2_get.cls ≠ "java/lang/invoke/VarHandle" ∧ (parseMethodDescriptor yX2_get.desc).map (fun d => d.parameters.length) = some 1 := by decide +kernel
def f_X2_get (a : Nat) (x1 : Int32) (σ : St) : Option (Int32 × St) :=
  (if x1 < 0 then some (0, σ) else (if (Int32.ofNat (ln a)) ≤ x1 then some (0, σ) else gd (x1 < 0 ∨ (ln a) ≤ x1.toNatClampNeg) (some (sA σ a x1.toNatClampNeg, σ))))
set_option maxHeartbeats 4000000 in
set_option maxRecDepth 100000 in
theorem c_X2_get (l : Launch) (G : GG) (a : Nat) (k : Nat) (hk : kd k = 1) (ha : kd a = 6) (hka : k + 1 = a) (x1 : Int32) (σ : St) (res : Int32 × St) (hf : f_X2_get a x1 σ = some res) : CI l yX2_get wsX2_get 0 [.ref (G.2.1 k), .int x1] G σ (fun r u => r = res.1 ∧ u = res.2) := by
  refine x_ent (ret := (some .int)) cX2_get 2 (by decide) rfl (Nat.le_of_ble_eq_true rfl) ?_
  intro p e s m below meth c ls C hR hS hl
  have C : Cx p s m [.ref (G.2.1 k), .int x1].toArray meth c cX2_get RX2 wsX2_get (some .int) 2 G := C
  have hx := C.1
  have hb := C.2.1
  have hl : lv_has ls 2 [(0, .ref (G.2.1 k)), (1, .int x1)] := hl
  have inX2 : ∀ w ∈ u_ws RX2 TX2 1, w ∈ wsX2_get := fun w h => List.mem_cons_of_mem _ (List.mem_append_right _ h)
  unfold f_X2_get at hf
  refine lv_iload_n hx hb dX2_get_0 rfl (lv_at hl 1 rfl) ?_
  refine lv_if_lt (tgt := 22) hx hb dX2_get_1 (by decide) (fun c_1 => ?_) (fun c_1 => ?_)
  · replace hf := (if_pos c_1).symm.trans hf
    refine lv_iconst (v := 0) hx hb dX2_get_22 (by decide) ?_
    obtain rfl := Option.some.inj hf
    exact x_iret C hR hS dX2_get_23 ⟨rfl, rfl⟩
  · replace hf := (if_neg c_1).symm.trans hf
    refine lv_iload_n hx hb dX2_get_4 rfl (lv_at hl 1 rfl) ?_
    refine lv_aload_n hx hb dX2_get_5 rfl (lv_at hl 0 rfl) ?_
    refine x_get C hR inX2 k (kd_lt hk (by decide)) (cz1 hk) rfl 0 (by decide) 1 rfl (.ref (G.2.1 a)) (by rw [← hka]; rfl) dX2_get_6 ?_
    refine x_alen C hR a ha (v := Int32.ofNat (ln a)) rfl dX2_get_9 ?_
    refine lv_icmp_ge (tgt := 22) hx hb dX2_get_10 (by decide) (fun c_10 => ?_) (fun c_10 => ?_)
    · replace hf := (if_pos c_10).symm.trans hf
      refine lv_iconst (v := 0) hx hb dX2_get_22 (by decide) ?_
      obtain rfl := Option.some.inj hf
      exact x_iret C hR hS dX2_get_23 ⟨rfl, rfl⟩
    · replace hf := (if_neg c_10).symm.trans hf
      refine lv_aload_n hx hb dX2_get_13 rfl (lv_at hl 0 rfl) ?_
      refine x_get C hR inX2 k (kd_lt hk (by decide)) (cz1 hk) rfl 0 (by decide) 1 rfl (.ref (G.2.1 a)) (by rw [← hka]; rfl) dX2_get_14 ?_
      refine lv_iload_n hx hb dX2_get_17 rfl (lv_at hl 1 rfl) ?_
      obtain ⟨z_18, hf⟩ := gd_some hf
      refine x_iald C hR a ha z_18 (n := x1.toNatClampNeg) rfl (sA σ a x1.toNatClampNeg) rfl dX2_get_18 ?_
      refine lv_goto (tgt := 23) hx hb dX2_get_19 (by decide) ?_
      obtain rfl := Option.some.inj hf
      exact x_iret C hR hS dX2_get_23 ⟨rfl, rfl⟩
theorem hdV_X2_copyFrom : yX2_copyFrom.cls = RX2 ∧ yX2_copyFrom.cls ≠ "java/lang/invoke/MethodHandle" ∧ yX2_copyFrom.cls ≠ "java/lang/invoke/VarHandle" ∧ (parseMethodDescriptor yX2_copyFrom.desc).map (fun d => d.parameters.length) = some 1 := by decide +kernel
def f_X2_copyFrom_2 (a : Nat) (a2 : Nat) : Nat → Int32 → St → Option (St)
  | 0, _, _ => none
  | n + 1, x2, σ => (if (Int32.ofNat (ln a)) ≤ x2 then some σ else bd (f_X2_get a2 x2 σ) (fun r18 σ18 => gd (x2 < 0 ∨ (ln a) ≤ x2.toNatClampNeg) ((f_X2_copyFrom_2 a a2 n) (x2 + 1) (pA σ18 a x2.toNatClampNeg r18))))
def f_X2_copyFrom (a : Nat) (a2 : Nat) (σ : St) : Option (St) :=
  f_X2_copyFrom_2 a a2 FU 0 σ
set_option maxHeartbeats 4000000 in
set_option maxRecDepth 100000 in
theorem w_X2_copyFrom_2 {p : Program} {l : Launch} {e : Env} {s : State} {m : MethodId} {args : Array Value} {below : List Frame} {meth : Method} {c : Code} {G : GG} (a : Nat) (a2 : Nat) (k : Nat) (hk : kd k = 1) (ha : kd a = 6) (hka : k + 1 = a) (k2 : Nat) (hk2 : kd k2 = 1) (ha2 : kd a2 = 6) (hk2a2 : k2 + 1 = a2) (C : Cx p s m args meth c cX2_copyFrom RX2 wsX2_copyFrom none 3 G) {res : St} : ∀ (n : Nat) (x2 : Int32) (σ : St), f_X2_copyFrom_2 a a2 n x2 σ = some res → WC p l e 1 s m args below meth c G (QV G res) 3 2 [(0, .ref (G.2.1 k)), (1, .ref (G.2.1 k2)), (2, .int x2)] [] σ := by
  have hx := C.1
  have hb := C.2.1
  have inX2 : ∀ w ∈ u_ws RX2 TX2 1, w ∈ wsX2_copyFrom := fun w h => List.mem_cons_of_mem _ (List.mem_append_right _ h)
  intro n
  induction n with
  | zero => intro x2 σ hf; cases hf
  | succ n hrc2 =>
    intro x2 σ hf _ _ _ hR hS hl
    unfold f_X2_copyFrom_2 at hf
    refine lv_iload_n hx hb dX2_copyFrom_2 rfl (lv_at hl 2 rfl) ?_
    refine lv_aload_n hx hb dX2_copyFrom_3 rfl (lv_at hl 0 rfl) ?_
    refine x_get C hR inX2 k (kd_lt hk (by decide)) (cz1 hk) rfl 0 (by decide) 1 rfl (.ref (G.2.1 a)) (by rw [← hka]; rfl) dX2_copyFrom_4 ?_
    refine x_alen C hR a ha (v := Int32.ofNat (ln a)) rfl dX2_copyFrom_7 ?_
    refine lv_icmp_ge (tgt := 28) hx hb dX2_copyFrom_8 (by decide) (fun c_8 => ?_) (fun c_8 => ?_)
    · replace hf := (if_pos c_8).symm.trans hf
      obtain rfl := Option.some.inj hf
      exact x_vret C hR hS dX2_copyFrom_28 rfl
    · replace hf := (if_neg c_8).symm.trans hf
      refine lv_aload_n hx hb dX2_copyFrom_11 rfl (lv_at hl 0 rfl) ?_
      refine x_get C hR inX2 k (kd_lt hk (by decide)) (cz1 hk) rfl 0 (by decide) 1 rfl (.ref (G.2.1 a)) (by rw [← hka]; rfl) dX2_copyFrom_12 ?_
      refine lv_iload_n hx hb dX2_copyFrom_15 rfl (lv_at hl 2 rfl) ?_
      refine lv_aload_n hx hb dX2_copyFrom_16 rfl (lv_at hl 1 rfl) ?_
      refine lv_iload_n hx hb dX2_copyFrom_17 rfl (lv_at hl 2 rfl) ?_
      obtain ⟨r18_, σ18_, hc_18, hf⟩ := bd_some hf
      refine x_cvI C hl.1 hR hS (c_X2_get l G a2 k2 hk2 ha2 hk2a2 x2 σ _ hc_18) gX2_copyFrom_X2_get rfl hdV_X2_get ⟨Nat.le_of_ble_eq_true rfl, Nat.le_of_ble_eq_true rfl⟩ (kd_lt hk2 (by decide)) (cz1 hk2) rfl rfl (As := [.int x2]) (rest := [.int x2, .ref (G.2.1 a)]) rfl (Nat.le_of_ble_eq_true rfl) ⟨Nat.le_of_ble_eq_true rfl, Nat.le_of_ble_eq_true rfl⟩ dX2_copyFrom_18 (fun r18 σ18 H locs hq_18 hR hS => ?_)
      obtain ⟨rfl, rfl⟩ := hq_18
      obtain ⟨z_21, hf⟩ := gd_some hf
      refine x_iast C hR hS a ha z_21 (n := x2.toNatClampNeg) rfl dX2_copyFrom_21 (fun H locs hR hS => ?_)
      refine lv_iinc (v := x2 + 1) (lv' := [(2, .int (x2 + 1)), (0, .ref (G.2.1 k)), (1, .ref (G.2.1 k2))]) hx hb dX2_copyFrom_22 hl (k := 2) rfl rfl (by decide) rfl (fun ls hl => ?_)
      refine lv_goto (tgt := 2) hx hb dX2_copyFrom_25 (by decide) ?_
      exact hrc2 (x2 + 1) _ hf _ _ _ hR hS (lv_sub hl [1, 2, 0] rfl)
set_option maxHeartbeats 4000000 in
set_option maxRecDepth 100000 in
theorem c_X2_copyFrom (l : Launch) (G : GG) (a : Nat) (a2 : Nat) (k : Nat) (hk : kd k = 1) (ha : kd a = 6) (hka : k + 1 = a) (k2 : Nat) (hk2 : kd k2 = 1) (ha2 : kd a2 = 6) (hk2a2 : k2 + 1 = a2) (σ : St) (res : St) (hf : f_X2_copyFrom a a2 σ = some res) : CV l yX2_copyFrom wsX2_copyFrom 1 [.ref (G.2.1 k), .ref (G.2.1 k2)] G σ (fun u => u = res) := by
  refine x_ent (ret := none) cX2_copyFrom 3 (by decide) rfl (Nat.le_of_ble_eq_true rfl) ?_
  intro p e s m below meth c ls C hR hS hl
  have C : Cx p s m [.ref (G.2.1 k), .ref (G.2.1 k2)].toArray meth c cX2_copyFrom RX2 wsX2_copyFrom none 3 G := C
  have hx := C.1
  have hb := C.2.1
  have hl : lv_has ls 3 [(0, .ref (G.2.1 k)), (1, .ref (G.2.1 k2))] := hl
  have inX2 : ∀ w ∈ u_ws RX2 TX2 1, w ∈ wsX2_copyFrom := fun w h => List.mem_cons_of_mem _ (List.mem_append_right _ h)
  unfold f_X2_copyFrom at hf
  refine lv_iconst (v := 0) hx hb dX2_copyFrom_0 (by decide) ?_
  refine lv_istore_n (lv' := [(2, .int 0), (0, .ref (G.2.1 k)), (1, .ref (G.2.1 k2))]) hx hb dX2_copyFrom_1 rfl hl (by decide) rfl (fun ls hl => ?_)
  exact w_X2_copyFrom_2 a a2 k hk ha hka k2 hk2 ha2 hk2a2 C  FU 0 _ hf _ _ _ hR hS (lv_sub hl [1, 2, 0] rfl)
theorem hdS_X5_within : yX5_within.cls ≠ "java/lang/invoke/MethodHandle" ∧ yX5_within.cls ≠ "java/lang/invoke/VarHandle" ∧ (parseMethodDescriptor yX5_within.desc).map (fun d => d.parameters.length) = some 3 := by decide +kernel
def f_X5_within (x0 : Int32) (x1 : Int32) (x2 : Int32) (σ : St) : Option (Int32 × St) :=
  (if x0 < x1 then some (0, σ) else (if x2 < x0 then some (0, σ) else some (1, σ)))
set_option maxHeartbeats 4000000 in
set_option maxRecDepth 100000 in
theorem c_X5_within (l : Launch) (G : GG) (x0 : Int32) (x1 : Int32) (x2 : Int32) (σ : St) (res : Int32 × St) (hf : f_X5_within x0 x1 x2 σ = some res) : CI l yX5_within wsX5_within 0 [.int x0, .int x1, .int x2] G σ (fun r u => r = res.1 ∧ u = res.2) := by
  refine x_ent (ret := (some .boolean)) cX5_within 3 (by decide) rfl (Nat.le_of_ble_eq_true rfl) ?_
  intro p e s m below meth c ls C hR hS hl
  have C : Cx p s m [.int x0, .int x1, .int x2].toArray meth c cX5_within RX5 wsX5_within (some .boolean) 3 G := C
  have hx := C.1
  have hb := C.2.1
  have hl : lv_has ls 3 [(0, .int x0), (1, .int x1), (2, .int x2)] := hl
  unfold f_X5_within at hf
  refine lv_iload_n hx hb dX5_within_0 rfl (lv_at hl 0 rfl) ?_
  refine lv_iload_n hx hb dX5_within_1 rfl (lv_at hl 1 rfl) ?_
  refine lv_icmp_lt (tgt := 14) hx hb dX5_within_2 (by decide) (fun c_2 => ?_) (fun c_2 => ?_)
  · replace hf := (if_pos c_2).symm.trans hf
    refine lv_iconst (v := 0) hx hb dX5_within_14 (by decide) ?_
    obtain rfl := Option.some.inj hf
    exact x_zret C hR hS dX5_within_15 (by first | rfl | decide | (simp only []; split <;> rfl)) ⟨rfl, rfl⟩
  · replace hf := (if_neg c_2).symm.trans hf
    refine lv_iload_n hx hb dX5_within_5 rfl (lv_at hl 0 rfl) ?_
    refine lv_iload_n hx hb dX5_within_6 rfl (lv_at hl 2 rfl) ?_
    refine lv_icmp_gt (tgt := 14) hx hb dX5_within_7 (by decide) (fun c_7 => ?_) (fun c_7 => ?_)
    · replace hf := (if_pos c_7).symm.trans hf
      refine lv_iconst (v := 0) hx hb dX5_within_14 (by decide) ?_
      obtain rfl := Option.some.inj hf
      exact x_zret C hR hS dX5_within_15 (by first | rfl | decide | (simp only []; split <;> rfl)) ⟨rfl, rfl⟩
    · replace hf := (if_neg c_7).symm.trans hf
      refine lv_iconst (v := 1) hx hb dX5_within_10 (by decide) ?_
      refine lv_goto (tgt := 15) hx hb dX5_within_11 (by decide) ?_
      obtain rfl := Option.some.inj hf
      exact x_zret C hR hS dX5_within_15 (by first | rfl | decide | (simp only []; split <;> rfl)) ⟨rfl, rfl⟩
theorem hdV_X2_put : yX2_put.cls = RX2 ∧ yX2_put.cls ≠ "java/lang/invoke/MethodHandle" ∧ yX2_put.cls ≠ "java/lang/invoke/VarHandle" ∧ (parseMethodDescriptor yX2_put.desc).map (fun d => d.parameters.length) = some 2 := by decide +kernel
def f_X2_put (a : Nat) (x1 : Int32) (x2 : Int32) (σ : St) : Option (St) :=
  (if x1 < 0 then some σ else (if (Int32.ofNat (ln a)) ≤ x1 then some σ else gd (x1 < 0 ∨ (ln a) ≤ x1.toNatClampNeg) (some (pA σ a x1.toNatClampNeg x2))))
set_option maxHeartbeats 4000000 in
set_option maxRecDepth 100000 in
theorem c_X2_put (l : Launch) (G : GG) (a : Nat) (k : Nat) (hk : kd k = 1) (ha : kd a = 6) (hka : k + 1 = a) (x1 : Int32) (x2 : Int32) (σ : St) (res : St) (hf : f_X2_put a x1 x2 σ = some res) : CV l yX2_put wsX2_put 0 [.ref (G.2.1 k), .int x1, .int x2] G σ (fun u => u = res) := by
  refine x_ent (ret := none) cX2_put 3 (by decide) rfl (Nat.le_of_ble_eq_true rfl) ?_
  intro p e s m below meth c ls C hR hS hl
  have C : Cx p s m [.ref (G.2.1 k), .int x1, .int x2].toArray meth c cX2_put RX2 wsX2_put none 3 G := C
  have hx := C.1
  have hb := C.2.1
  have hl : lv_has ls 3 [(0, .ref (G.2.1 k)), (1, .int x1), (2, .int x2)] := hl
  have inX2 : ∀ w ∈ u_ws RX2 TX2 1, w ∈ wsX2_put := fun w h => List.mem_cons_of_mem _ (List.mem_append_right _ h)
  unfold f_X2_put at hf
  refine lv_iload_n hx hb dX2_put_0 rfl (lv_at hl 1 rfl) ?_
  refine lv_if_lt (tgt := 20) hx hb dX2_put_1 (by decide) (fun c_1 => ?_) (fun c_1 => ?_)
  · replace hf := (if_pos c_1).symm.trans hf
    obtain rfl := Option.some.inj hf
    exact x_vret C hR hS dX2_put_20 rfl
  · replace hf := (if_neg c_1).symm.trans hf
    refine lv_iload_n hx hb dX2_put_4 rfl (lv_at hl 1 rfl) ?_
    refine lv_aload_n hx hb dX2_put_5 rfl (lv_at hl 0 rfl) ?_
    refine x_get C hR inX2 k (kd_lt hk (by decide)) (cz1 hk) rfl 0 (by decide) 1 rfl (.ref (G.2.1 a)) (by rw [← hka]; rfl) dX2_put_6 ?_
    refine x_alen C hR a ha (v := Int32.ofNat (ln a)) rfl dX2_put_9 ?_
    refine lv_icmp_ge (tgt := 20) hx hb dX2_put_10 (by decide) (fun c_10 => ?_) (fun c_10 => ?_)
    · replace hf := (if_pos c_10).symm.trans hf
      obtain rfl := Option.some.inj hf
      exact x_vret C hR hS dX2_put_20 rfl
    · replace hf := (if_neg c_10).symm.trans hf
      refine lv_aload_n hx hb dX2_put_13 rfl (lv_at hl 0 rfl) ?_
      refine x_get C hR inX2 k (kd_lt hk (by decide)) (cz1 hk) rfl 0 (by decide) 1 rfl (.ref (G.2.1 a)) (by rw [← hka]; rfl) dX2_put_14 ?_
      refine lv_iload_n hx hb dX2_put_17 rfl (lv_at hl 1 rfl) ?_
      refine lv_iload_n hx hb dX2_put_18 rfl (lv_at hl 2 rfl) ?_
      obtain ⟨z_19, hf⟩ := gd_some hf
      refine x_iast C hR hS a ha z_19 (n := x1.toNatClampNeg) rfl dX2_put_19 (fun H locs hR hS => ?_)
      obtain rfl := Option.some.inj hf
      exact x_vret C hR hS dX2_put_20 rfl
theorem hdV_X2_dropFirst : yX2_dropFirst.cls = RX2 ∧ yX2_dropFirst.cls ≠ "java/lang/invoke/MethodHandle" ∧ yX2_dropFirst.cls ≠ "java/lang/invoke/VarHandle" ∧ (parseMethodDescriptor yX2_dropFirst.desc).map (fun d => d.parameters.length) = some 0 := by decide +kernel
def f_X2_dropFirst_2 (a : Nat) : Nat → Int32 → St → Option (St)
  | 0, _, _ => none
  | n + 1, x1, σ => (if ((Int32.ofNat (ln a)) - 1) ≤ x1 then some σ else gd ((x1 + 1) < 0 ∨ (ln a) ≤ (x1 + 1).toNatClampNeg) (gd (x1 < 0 ∨ (ln a) ≤ x1.toNatClampNeg) ((f_X2_dropFirst_2 a n) (x1 + 1) (pA σ a x1.toNatClampNeg (sA σ a ((x1 + 1).toNatClampNeg))))))
def f_X2_dropFirst (a : Nat) (σ : St) : Option (St) :=
  f_X2_dropFirst_2 a FU 0 σ
set_option maxHeartbeats 4000000 in
set_option maxRecDepth 100000 in
theorem w_X2_dropFirst_2 {p : Program} {l : Launch} {e : Env} {s : State} {m : MethodId} {args : Array Value} {below : List Frame} {meth : Method} {c : Code} {G : GG} (a : Nat) (k : Nat) (hk : kd k = 1) (ha : kd a = 6) (hka : k + 1 = a) (C : Cx p s m args meth c cX2_dropFirst RX2 wsX2_dropFirst none 2 G) {res : St} : ∀ (n : Nat) (x1 : Int32) (σ : St), f_X2_dropFirst_2 a n x1 σ = some res → WC p l e 0 s m args below meth c G (QV G res) 2 2 [(0, .ref (G.2.1 k)), (1, .int x1)] [] σ := by
  have hx := C.1
  have hb := C.2.1
  have inX2 : ∀ w ∈ u_ws RX2 TX2 1, w ∈ wsX2_dropFirst := fun w h => List.mem_cons_of_mem _ (List.mem_append_right _ h)
  intro n
  induction n with
  | zero => intro x1 σ hf; cases hf
  | succ n hrc2 =>
    intro x1 σ hf _ _ _ hR hS hl
    unfold f_X2_dropFirst_2 at hf
    refine lv_iload_n hx hb dX2_dropFirst_2 rfl (lv_at hl 1 rfl) ?_
    refine lv_aload_n hx hb dX2_dropFirst_3 rfl (lv_at hl 0 rfl) ?_
    refine x_get C hR inX2 k (kd_lt hk (by decide)) (cz1 hk) rfl 0 (by decide) 1 rfl (.ref (G.2.1 a)) (by rw [← hka]; rfl) dX2_dropFirst_4 ?_
    refine x_alen C hR a ha (v := Int32.ofNat (ln a)) rfl dX2_dropFirst_7 ?_
    refine lv_iconst (v := 1) hx hb dX2_dropFirst_8 (by decide) ?_
    refine lv_isub hx hb dX2_dropFirst_9 ?_
    refine lv_icmp_ge (tgt := 33) hx hb dX2_dropFirst_10 (by decide) (fun c_10 => ?_) (fun c_10 => ?_)
    · replace hf := (if_pos c_10).symm.trans hf
      obtain rfl := Option.some.inj hf
      exact x_vret C hR hS dX2_dropFirst_33 rfl
    · replace hf := (if_neg c_10).symm.trans hf
      refine lv_aload_n hx hb dX2_dropFirst_13 rfl (lv_at hl 0 rfl) ?_
      refine x_get C hR inX2 k (kd_lt hk (by decide)) (cz1 hk) rfl 0 (by decide) 1 rfl (.ref (G.2.1 a)) (by rw [← hka]; rfl) dX2_dropFirst_14 ?_
      refine lv_iload_n hx hb dX2_dropFirst_17 rfl (lv_at hl 1 rfl) ?_
      refine lv_aload_n hx hb dX2_dropFirst_18 rfl (lv_at hl 0 rfl) ?_
      refine x_get C hR inX2 k (kd_lt hk (by decide)) (cz1 hk) rfl 0 (by decide) 1 rfl (.ref (G.2.1 a)) (by rw [← hka]; rfl) dX2_dropFirst_19 ?_
      refine lv_iload_n hx hb dX2_dropFirst_22 rfl (lv_at hl 1 rfl) ?_
      refine lv_iconst (v := 1) hx hb dX2_dropFirst_23 (by decide) ?_
      refine lv_iadd hx hb dX2_dropFirst_24 ?_
      obtain ⟨z_25, hf⟩ := gd_some hf
      refine x_iald C hR a ha z_25 (n := (x1 + 1).toNatClampNeg) rfl (sA σ a ((x1 + 1).toNatClampNeg)) rfl dX2_dropFirst_25 ?_
      obtain ⟨z_26, hf⟩ := gd_some hf
      refine x_iast C hR hS a ha z_26 (n := x1.toNatClampNeg) rfl dX2_dropFirst_26 (fun H locs hR hS => ?_)
      refine lv_iinc (v := x1 + 1) (lv' := [(1, .int (x1 + 1)), (0, .ref (G.2.1 k))]) hx hb dX2_dropFirst_27 hl (k := 1) rfl rfl (by decide) rfl (fun ls hl => ?_)
      refine lv_goto (tgt := 2) hx hb dX2_dropFirst_30 (by decide) ?_
      exact hrc2 (x1 + 1) _ hf _ _ _ hR hS (lv_sub hl [1, 0] rfl)
set_option maxHeartbeats 4000000 in
set_option maxRecDepth 100000 in
theorem c_X2_dropFirst (l : Launch) (G : GG) (a : Nat) (k : Nat) (hk : kd k = 1) (ha : kd a = 6) (hka : k + 1 = a) (σ : St) (res : St) (hf : f_X2_dropFirst a σ = some res) : CV l yX2_dropFirst wsX2_dropFirst 0 [.ref (G.2.1 k)] G σ (fun u => u = res) := by
  refine x_ent (ret := none) cX2_dropFirst 2 (by decide) rfl (Nat.le_of_ble_eq_true rfl) ?_
  intro p e s m below meth c ls C hR hS hl
  have C : Cx p s m [.ref (G.2.1 k)].toArray meth c cX2_dropFirst RX2 wsX2_dropFirst none 2 G := C
  have hx := C.1
  have hb := C.2.1
  have hl : lv_has ls 2 [(0, .ref (G.2.1 k))] := hl
  have inX2 : ∀ w ∈ u_ws RX2 TX2 1, w ∈ wsX2_dropFirst := fun w h => List.mem_cons_of_mem _ (List.mem_append_right _ h)
  unfold f_X2_dropFirst at hf
  refine lv_iconst (v := 0) hx hb dX2_dropFirst_0 (by decide) ?_
  refine lv_istore_n (lv' := [(1, .int 0), (0, .ref (G.2.1 k))]) hx hb dX2_dropFirst_1 rfl hl (by decide) rfl (fun ls hl => ?_)
  exact w_X2_dropFirst_2 a k hk ha hka C  FU 0 _ hf _ _ _ hR hS (lv_sub hl [1, 0] rfl)
theorem hdS_X1_readyMinutes : yX1_readyMinutes.cls ≠ "java/lang/invoke/MethodHandle" ∧ yX1_readyMinutes.cls ≠ "java/lang/invoke/VarHandle" ∧ (parseMethodDescriptor yX1_readyMinutes.desc).map (fun d => d.parameters.length) = some 2 := by decide +kernel
def f_X1_readyMinutes_36 (x1 : Int32) (σ : St) : Option (Int32 × St) :=
  (if 5 ≤ x1 then some (4, σ) else some (8, σ))
def f_X1_readyMinutes (x0 : Int32) (x1 : Int32) (σ : St) : Option (Int32 × St) :=
  (if x0 = 1 then f_X1_readyMinutes_36 x1 σ else (if x0 = 2 then some (4, σ) else (if x0 = 3 then f_X1_readyMinutes_36 x1 σ else (if x0 = 4 then some (6, σ) else (if x0 = 5 then some (3, σ) else some (4, σ))))))
set_option maxHeartbeats 4000000 in
set_option maxRecDepth 100000 in
theorem w_X1_readyMinutes_36 {p : Program} {l : Launch} {e : Env} {s : State} {m : MethodId} {args : Array Value} {below : List Frame} {meth : Method} {c : Code} {G : GG} (C : Cx p s m args meth c cX1_readyMinutes RX1 wsX1_readyMinutes (some .int) 2 G) {res : Int32 × St} : ∀ (x1 : Int32) (σ : St), f_X1_readyMinutes_36 x1 σ = some res → WC p l e 0 s m args below meth c G (QI G res) 2 36 [(1, .int x1)] [] σ := by
  have hx := C.1
  have hb := C.2.1
  intro x1 σ hf _ _ _ hR hS hl
  unfold f_X1_readyMinutes_36 at hf
  refine lv_iload_n hx hb dX1_readyMinutes_36 rfl (lv_at hl 0 rfl) ?_
  refine lv_iconst (v := 5) hx hb dX1_readyMinutes_37 (by decide) ?_
  refine lv_icmp_ge (tgt := 46) hx hb dX1_readyMinutes_38 (by decide) (fun c_38 => ?_) (fun c_38 => ?_)
  · replace hf := (if_pos c_38).symm.trans hf
    refine lv_iconst (v := 4) hx hb dX1_readyMinutes_46 (by decide) ?_
    obtain rfl := Option.some.inj hf
    exact x_iret C hR hS dX1_readyMinutes_47 ⟨rfl, rfl⟩
  · replace hf := (if_neg c_38).symm.trans hf
    refine lv_bipush (v := 8) hx hb dX1_readyMinutes_41 (by decide) ?_
    refine lv_goto (tgt := 47) hx hb dX1_readyMinutes_43 (by decide) ?_
    obtain rfl := Option.some.inj hf
    exact x_iret C hR hS dX1_readyMinutes_47 ⟨rfl, rfl⟩
set_option maxHeartbeats 4000000 in
set_option maxRecDepth 100000 in
theorem c_X1_readyMinutes (l : Launch) (G : GG) (x0 : Int32) (x1 : Int32) (σ : St) (res : Int32 × St) (hf : f_X1_readyMinutes x0 x1 σ = some res) : CI l yX1_readyMinutes wsX1_readyMinutes 0 [.int x0, .int x1] G σ (fun r u => r = res.1 ∧ u = res.2) := by
  refine x_ent (ret := (some .int)) cX1_readyMinutes 2 (by decide) rfl (Nat.le_of_ble_eq_true rfl) ?_
  intro p e s m below meth c ls C hR hS hl
  have C : Cx p s m [.int x0, .int x1].toArray meth c cX1_readyMinutes RX1 wsX1_readyMinutes (some .int) 2 G := C
  have hx := C.1
  have hb := C.2.1
  have hl : lv_has ls 2 [(0, .int x0), (1, .int x1)] := hl
  unfold f_X1_readyMinutes at hf
  refine lv_iload_n hx hb dX1_readyMinutes_0 rfl (lv_at hl 0 rfl) ?_
  by_cases c_1_0 : x0 = 1
  · replace hf := (if_pos c_1_0).symm.trans hf
    refine x_tbl (tgt := 36) (off := 35) hx hb c_1_0 dX1_readyMinutes_1 (by decide) (by decide) (by decide) (by decide) ?_
    exact w_X1_readyMinutes_36 C  x1 _ hf _ _ _ hR hS (lv_sub hl [1] rfl)
  · replace hf := (if_neg c_1_0).symm.trans hf
    by_cases c_1_1 : x0 = 2
    · replace hf := (if_pos c_1_1).symm.trans hf
      refine x_tbl (tgt := 53) (off := 52) hx hb c_1_1 dX1_readyMinutes_1 (by decide) (by decide) (by decide) (by decide) ?_
      refine lv_iconst (v := 4) hx hb dX1_readyMinutes_53 (by decide) ?_
      obtain rfl := Option.some.inj hf
      exact x_iret C hR hS dX1_readyMinutes_54 ⟨rfl, rfl⟩
    · replace hf := (if_neg c_1_1).symm.trans hf
      by_cases c_1_2 : x0 = 3
      · replace hf := (if_pos c_1_2).symm.trans hf
        refine x_tbl (tgt := 36) (off := 35) hx hb c_1_2 dX1_readyMinutes_1 (by decide) (by decide) (by decide) (by decide) ?_
        exact w_X1_readyMinutes_36 C  x1 _ hf _ _ _ hR hS (lv_sub hl [1] rfl)
      · replace hf := (if_neg c_1_2).symm.trans hf
        by_cases c_1_3 : x0 = 4
        · replace hf := (if_pos c_1_3).symm.trans hf
          refine x_tbl (tgt := 48) (off := 47) hx hb c_1_3 dX1_readyMinutes_1 (by decide) (by decide) (by decide) (by decide) ?_
          refine lv_bipush (v := 6) hx hb dX1_readyMinutes_48 (by decide) ?_
          obtain rfl := Option.some.inj hf
          exact x_iret C hR hS dX1_readyMinutes_50 ⟨rfl, rfl⟩
        · replace hf := (if_neg c_1_3).symm.trans hf
          by_cases c_1_4 : x0 = 5
          · replace hf := (if_pos c_1_4).symm.trans hf
            refine x_tbl (tgt := 51) (off := 50) hx hb c_1_4 dX1_readyMinutes_1 (by decide) (by decide) (by decide) (by decide) ?_
            refine lv_iconst (v := 3) hx hb dX1_readyMinutes_51 (by decide) ?_
            obtain rfl := Option.some.inj hf
            exact x_iret C hR hS dX1_readyMinutes_52 ⟨rfl, rfl⟩
          · replace hf := (if_neg c_1_4).symm.trans hf
            have n_1_0 : Int32.toInt x0 ≠ 1 := x_ne c_1_0
            have n_1_1 : Int32.toInt x0 ≠ 2 := x_ne c_1_1
            have n_1_2 : Int32.toInt x0 ≠ 3 := x_ne c_1_2
            have n_1_3 : Int32.toInt x0 ≠ 4 := x_ne c_1_3
            have n_1_4 : Int32.toInt x0 ≠ 5 := x_ne c_1_4
            refine lv_tableOut (tgt := 53) hx hb dX1_readyMinutes_1 (by omega) (by decide) ?_
            refine lv_iconst (v := 4) hx hb dX1_readyMinutes_53 (by decide) ?_
            obtain rfl := Option.some.inj hf
            exact x_iret C hR hS dX1_readyMinutes_54 ⟨rfl, rfl⟩
theorem hdS_X1_passedMinutes : yX1_passedMinutes.cls ≠ "java/lang/invoke/MethodHandle" ∧ yX1_passedMinutes.cls ≠ "java/lang/invoke/VarHandle" ∧ (parseMethodDescriptor yX1_passedMinutes.desc).map (fun d => d.parameters.length) = some 2 := by decide +kernel
def f_X1_passedMinutes (x0 : Int32) (x1 : Int32) (σ : St) : Option (Int32 × St) :=
  (if x0 = 1 then some (8, σ) else (if x0 = 2 then some (6, σ) else (if x0 = 3 then (if 5 ≤ x1 then some (8, σ) else some (8 + 1, σ)) else (if x0 = 4 then some (9, σ) else some (6, σ)))))
set_option maxHeartbeats 4000000 in
set_option maxRecDepth 100000 in
theorem c_X1_passedMinutes (l : Launch) (G : GG) (x0 : Int32) (x1 : Int32) (σ : St) (res : Int32 × St) (hf : f_X1_passedMinutes x0 x1 σ = some res) : CI l yX1_passedMinutes wsX1_passedMinutes 0 [.int x0, .int x1] G σ (fun r u => r = res.1 ∧ u = res.2) := by
  refine x_ent (ret := (some .int)) cX1_passedMinutes 3 (by decide) rfl (Nat.le_of_ble_eq_true rfl) ?_
  intro p e s m below meth c ls C hR hS hl
  have C : Cx p s m [.int x0, .int x1].toArray meth c cX1_passedMinutes RX1 wsX1_passedMinutes (some .int) 3 G := C
  have hx := C.1
  have hb := C.2.1
  have hl : lv_has ls 3 [(0, .int x0), (1, .int x1)] := hl
  unfold f_X1_passedMinutes at hf
  refine lv_bipush (v := 8) hx hb dX1_passedMinutes_0 (by decide) ?_
  refine lv_istore_n (lv' := [(2, .int 8), (0, .int x0), (1, .int x1)]) hx hb dX1_passedMinutes_2 rfl hl (by decide) rfl (fun ls hl => ?_)
  refine lv_iload_n hx hb dX1_passedMinutes_3 rfl (lv_at hl 1 rfl) ?_
  by_cases c_4_0 : x0 = 1
  · replace hf := (if_pos c_4_0).symm.trans hf
    refine x_tbl (tgt := 36) (off := 32) hx hb c_4_0 dX1_passedMinutes_4 (by decide) (by decide) (by decide) (by decide) ?_
    refine lv_iload_n hx hb dX1_passedMinutes_36 rfl (lv_at hl 0 rfl) ?_
    obtain rfl := Option.some.inj hf
    exact x_iret C hR hS dX1_passedMinutes_37 ⟨rfl, rfl⟩
  · replace hf := (if_neg c_4_0).symm.trans hf
    by_cases c_4_1 : x0 = 2
    · replace hf := (if_pos c_4_1).symm.trans hf
      refine x_tbl (tgt := 54) (off := 50) hx hb c_4_1 dX1_passedMinutes_4 (by decide) (by decide) (by decide) (by decide) ?_
      refine lv_bipush (v := 6) hx hb dX1_passedMinutes_54 (by decide) ?_
      obtain rfl := Option.some.inj hf
      exact x_iret C hR hS dX1_passedMinutes_56 ⟨rfl, rfl⟩
    · replace hf := (if_neg c_4_1).symm.trans hf
      by_cases c_4_2 : x0 = 3
      · replace hf := (if_pos c_4_2).symm.trans hf
        refine x_tbl (tgt := 38) (off := 34) hx hb c_4_2 dX1_passedMinutes_4 (by decide) (by decide) (by decide) (by decide) ?_
        refine lv_iload_n hx hb dX1_passedMinutes_38 rfl (lv_at hl 2 rfl) ?_
        refine lv_iconst (v := 5) hx hb dX1_passedMinutes_39 (by decide) ?_
        refine lv_icmp_ge (tgt := 49) hx hb dX1_passedMinutes_40 (by decide) (fun c_40 => ?_) (fun c_40 => ?_)
        · replace hf := (if_pos c_40).symm.trans hf
          refine lv_iload_n hx hb dX1_passedMinutes_49 rfl (lv_at hl 0 rfl) ?_
          obtain rfl := Option.some.inj hf
          exact x_iret C hR hS dX1_passedMinutes_50 ⟨rfl, rfl⟩
        · replace hf := (if_neg c_40).symm.trans hf
          refine lv_iload_n hx hb dX1_passedMinutes_43 rfl (lv_at hl 0 rfl) ?_
          refine lv_iconst (v := 1) hx hb dX1_passedMinutes_44 (by decide) ?_
          refine lv_iadd hx hb dX1_passedMinutes_45 ?_
          refine lv_goto (tgt := 50) hx hb dX1_passedMinutes_46 (by decide) ?_
          obtain rfl := Option.some.inj hf
          exact x_iret C hR hS dX1_passedMinutes_50 ⟨rfl, rfl⟩
      · replace hf := (if_neg c_4_2).symm.trans hf
        by_cases c_4_3 : x0 = 4
        · replace hf := (if_pos c_4_3).symm.trans hf
          refine x_tbl (tgt := 51) (off := 47) hx hb c_4_3 dX1_passedMinutes_4 (by decide) (by decide) (by decide) (by decide) ?_
          refine lv_bipush (v := 9) hx hb dX1_passedMinutes_51 (by decide) ?_
          obtain rfl := Option.some.inj hf
          exact x_iret C hR hS dX1_passedMinutes_53 ⟨rfl, rfl⟩
        · replace hf := (if_neg c_4_3).symm.trans hf
          have n_4_0 : Int32.toInt x0 ≠ 1 := x_ne c_4_0
          have n_4_1 : Int32.toInt x0 ≠ 2 := x_ne c_4_1
          have n_4_2 : Int32.toInt x0 ≠ 3 := x_ne c_4_2
          have n_4_3 : Int32.toInt x0 ≠ 4 := x_ne c_4_3
          refine lv_tableOut (tgt := 54) hx hb dX1_passedMinutes_4 (by omega) (by decide) ?_
          refine lv_bipush (v := 6) hx hb dX1_passedMinutes_54 (by decide) ?_
          obtain rfl := Option.some.inj hf
          exact x_iret C hR hS dX1_passedMinutes_56 ⟨rfl, rfl⟩
theorem hdS_X1_staysMinutes : yX1_staysMinutes.cls ≠ "java/lang/invoke/MethodHandle" ∧ yX1_staysMinutes.cls ≠ "java/lang/invoke/VarHandle" ∧ (parseMethodDescriptor yX1_staysMinutes.desc).map (fun d => d.parameters.length) = some 1 := by decide +kernel
def f_X1_staysMinutes (x0 : Int32) (σ : St) : Option (Int32 × St) :=
  (if x0 = 2 then some (30, σ) else (if x0 = 3 then some (20, σ) else (if x0 = 4 then some (0, σ) else (if x0 = 5 then some (60, σ) else some (0, σ)))))
set_option maxHeartbeats 4000000 in
set_option maxRecDepth 100000 in
theorem c_X1_staysMinutes (l : Launch) (G : GG) (x0 : Int32) (σ : St) (res : Int32 × St) (hf : f_X1_staysMinutes x0 σ = some res) : CI l yX1_staysMinutes wsX1_staysMinutes 0 [.int x0] G σ (fun r u => r = res.1 ∧ u = res.2) := by
  refine x_ent (ret := (some .int)) cX1_staysMinutes 1 (by decide) rfl (Nat.le_of_ble_eq_true rfl) ?_
  intro p e s m below meth c ls C hR hS hl
  have C : Cx p s m [.int x0].toArray meth c cX1_staysMinutes RX1 wsX1_staysMinutes (some .int) 1 G := C
  have hx := C.1
  have hb := C.2.1
  have hl : lv_has ls 1 [(0, .int x0)] := hl
  unfold f_X1_staysMinutes at hf
  refine lv_iload_n hx hb dX1_staysMinutes_0 rfl (lv_at hl 0 rfl) ?_
  by_cases c_1_0 : x0 = 2
  · replace hf := (if_pos c_1_0).symm.trans hf
    refine x_tbl (tgt := 32) (off := 31) hx hb c_1_0 dX1_staysMinutes_1 (by decide) (by decide) (by decide) (by decide) ?_
    refine lv_bipush (v := 30) hx hb dX1_staysMinutes_32 (by decide) ?_
    obtain rfl := Option.some.inj hf
    exact x_iret C hR hS dX1_staysMinutes_34 ⟨rfl, rfl⟩
  · replace hf := (if_neg c_1_0).symm.trans hf
    by_cases c_1_1 : x0 = 3
    · replace hf := (if_pos c_1_1).symm.trans hf
      refine x_tbl (tgt := 35) (off := 34) hx hb c_1_1 dX1_staysMinutes_1 (by decide) (by decide) (by decide) (by decide) ?_
      refine lv_bipush (v := 20) hx hb dX1_staysMinutes_35 (by decide) ?_
      obtain rfl := Option.some.inj hf
      exact x_iret C hR hS dX1_staysMinutes_37 ⟨rfl, rfl⟩
    · replace hf := (if_neg c_1_1).symm.trans hf
      by_cases c_1_2 : x0 = 4
      · replace hf := (if_pos c_1_2).symm.trans hf
        refine x_tbl (tgt := 41) (off := 40) hx hb c_1_2 dX1_staysMinutes_1 (by decide) (by decide) (by decide) (by decide) ?_
        refine lv_iconst (v := 0) hx hb dX1_staysMinutes_41 (by decide) ?_
        obtain rfl := Option.some.inj hf
        exact x_iret C hR hS dX1_staysMinutes_42 ⟨rfl, rfl⟩
      · replace hf := (if_neg c_1_2).symm.trans hf
        by_cases c_1_3 : x0 = 5
        · replace hf := (if_pos c_1_3).symm.trans hf
          refine x_tbl (tgt := 38) (off := 37) hx hb c_1_3 dX1_staysMinutes_1 (by decide) (by decide) (by decide) (by decide) ?_
          refine lv_bipush (v := 60) hx hb dX1_staysMinutes_38 (by decide) ?_
          obtain rfl := Option.some.inj hf
          exact x_iret C hR hS dX1_staysMinutes_40 ⟨rfl, rfl⟩
        · replace hf := (if_neg c_1_3).symm.trans hf
          have n_1_0 : Int32.toInt x0 ≠ 2 := x_ne c_1_0
          have n_1_1 : Int32.toInt x0 ≠ 3 := x_ne c_1_1
          have n_1_2 : Int32.toInt x0 ≠ 4 := x_ne c_1_2
          have n_1_3 : Int32.toInt x0 ≠ 5 := x_ne c_1_3
          refine lv_tableOut (tgt := 41) hx hb dX1_staysMinutes_1 (by omega) (by decide) ?_
          refine lv_iconst (v := 0) hx hb dX1_staysMinutes_41 (by decide) ?_
          obtain rfl := Option.some.inj hf
          exact x_iret C hR hS dX1_staysMinutes_42 ⟨rfl, rfl⟩
theorem hdS_X5_halfCutUp : yX5_halfCutUp.cls ≠ "java/lang/invoke/MethodHandle" ∧ yX5_halfCutUp.cls ≠ "java/lang/invoke/VarHandle" ∧ (parseMethodDescriptor yX5_halfCutUp.desc).map (fun d => d.parameters.length) = some 1 := by decide +kernel
def f_X5_halfCutUp (x0 : Int32) (σ : St) : Option (Int32 × St) :=
  some ((x0 + 1) / 2, σ)
set_option maxHeartbeats 4000000 in
set_option maxRecDepth 100000 in
theorem c_X5_halfCutUp (l : Launch) (G : GG) (x0 : Int32) (σ : St) (res : Int32 × St) (hf : f_X5_halfCutUp x0 σ = some res) : CI l yX5_halfCutUp wsX5_halfCutUp 0 [.int x0] G σ (fun r u => r = res.1 ∧ u = res.2) := by
  refine x_ent (ret := (some .int)) cX5_halfCutUp 1 (by decide) rfl (Nat.le_of_ble_eq_true rfl) ?_
  intro p e s m below meth c ls C hR hS hl
  have C : Cx p s m [.int x0].toArray meth c cX5_halfCutUp RX5 wsX5_halfCutUp (some .int) 1 G := C
  have hx := C.1
  have hb := C.2.1
  have hl : lv_has ls 1 [(0, .int x0)] := hl
  unfold f_X5_halfCutUp at hf
  refine lv_iload_n hx hb dX5_halfCutUp_0 rfl (lv_at hl 0 rfl) ?_
  refine lv_iconst (v := 1) hx hb dX5_halfCutUp_1 (by decide) ?_
  refine lv_iadd hx hb dX5_halfCutUp_2 ?_
  refine lv_iconst (v := 2) hx hb dX5_halfCutUp_3 (by decide) ?_
  refine lv_idiv hx hb dX5_halfCutUp_4 (by decide) ?_
  obtain rfl := Option.some.inj hf
  exact x_iret C hR hS dX5_halfCutUp_5 ⟨rfl, rfl⟩
theorem hdS_J6_bitCount_0f7a4 : yJ6_bitCount_0f7a4.cls ≠ "java/lang/invoke/MethodHandle" ∧ yJ6_bitCount_0f7a4.cls ≠ "java/lang/invoke/VarHandle" ∧ (parseMethodDescriptor yJ6_bitCount_0f7a4.desc).map (fun d => d.parameters.length) = some 1 := by decide +kernel
def f_J6_bitCount_0f7a4 (x0 : Int32) (σ : St) : Option (Int32 × St) :=
  some ((((((((x0 - (((x0.toUInt32 >>> (Int32.toUInt32 1 &&& Int32.toUInt32 31)).toInt32) &&& 1431655765)) &&& 858993459) + ((((x0 - (((x0.toUInt32 >>> (Int32.toUInt32 1 &&& Int32.toUInt32 31)).toInt32) &&& 1431655765)).toUInt32 >>> (Int32.toUInt32 2 &&& Int32.toUInt32 31)).toInt32) &&& 858993459)) + (((((x0 - (((x0.toUInt32 >>> (Int32.toUInt32 1 &&& Int32.toUInt32 31)).toInt32) &&& 1431655765)) &&& 858993459) + ((((x0 - (((x0.toUInt32 >>> (Int32.toUInt32 1 &&& Int32.toUInt32 31)).toInt32) &&& 1431655765)).toUInt32 >>> (Int32.toUInt32 2 &&& Int32.toUInt32 31)).toInt32) &&& 858993459)).toUInt32 >>> (Int32.toUInt32 4 &&& Int32.toUInt32 31)).toInt32)) &&& 252645135) + (((((((x0 - (((x0.toUInt32 >>> (Int32.toUInt32 1 &&& Int32.toUInt32 31)).toInt32) &&& 1431655765)) &&& 858993459) + ((((x0 - (((x0.toUInt32 >>> (Int32.toUInt32 1 &&& Int32.toUInt32 31)).toInt32) &&& 1431655765)).toUInt32 >>> (Int32.toUInt32 2 &&& Int32.toUInt32 31)).toInt32) &&& 858993459)) + (((((x0 - (((x0.toUInt32 >>> (Int32.toUInt32 1 &&& Int32.toUInt32 31)).toInt32) &&& 1431655765)) &&& 858993459) + ((((x0 - (((x0.toUInt32 >>> (Int32.toUInt32 1 &&& Int32.toUInt32 31)).toInt32) &&& 1431655765)).toUInt32 >>> (Int32.toUInt32 2 &&& Int32.toUInt32 31)).toInt32) &&& 858993459)).toUInt32 >>> (Int32.toUInt32 4 &&& Int32.toUInt32 31)).toInt32)) &&& 252645135).toUInt32 >>> (Int32.toUInt32 8 &&& Int32.toUInt32 31)).toInt32)) + ((((((((x0 - (((x0.toUInt32 >>> (Int32.toUInt32 1 &&& Int32.toUInt32 31)).toInt32) &&& 1431655765)) &&& 858993459) + ((((x0 - (((x0.toUInt32 >>> (Int32.toUInt32 1 &&& Int32.toUInt32 31)).toInt32) &&& 1431655765)).toUInt32 >>> (Int32.toUInt32 2 &&& Int32.toUInt32 31)).toInt32) &&& 858993459)) + (((((x0 - (((x0.toUInt32 >>> (Int32.toUInt32 1 &&& Int32.toUInt32 31)).toInt32) &&& 1431655765)) &&& 858993459) + ((((x0 - (((x0.toUInt32 >>> (Int32.toUInt32 1 &&& Int32.toUInt32 31)).toInt32) &&& 1431655765)).toUInt32 >>> (Int32.toUInt32 2 &&& Int32.toUInt32 31)).toInt32) &&& 858993459)).toUInt32 >>> (Int32.toUInt32 4 &&& Int32.toUInt32 31)).toInt32)) &&& 252645135) + (((((((x0 - (((x0.toUInt32 >>> (Int32.toUInt32 1 &&& Int32.toUInt32 31)).toInt32) &&& 1431655765)) &&& 858993459) + ((((x0 - (((x0.toUInt32 >>> (Int32.toUInt32 1 &&& Int32.toUInt32 31)).toInt32) &&& 1431655765)).toUInt32 >>> (Int32.toUInt32 2 &&& Int32.toUInt32 31)).toInt32) &&& 858993459)) + (((((x0 - (((x0.toUInt32 >>> (Int32.toUInt32 1 &&& Int32.toUInt32 31)).toInt32) &&& 1431655765)) &&& 858993459) + ((((x0 - (((x0.toUInt32 >>> (Int32.toUInt32 1 &&& Int32.toUInt32 31)).toInt32) &&& 1431655765)).toUInt32 >>> (Int32.toUInt32 2 &&& Int32.toUInt32 31)).toInt32) &&& 858993459)).toUInt32 >>> (Int32.toUInt32 4 &&& Int32.toUInt32 31)).toInt32)) &&& 252645135).toUInt32 >>> (Int32.toUInt32 8 &&& Int32.toUInt32 31)).toInt32)).toUInt32 >>> (Int32.toUInt32 16 &&& Int32.toUInt32 31)).toInt32)) &&& 63, σ)
set_option maxHeartbeats 4000000 in
set_option maxRecDepth 100000 in
theorem c_J6_bitCount_0f7a4 (l : Launch) (G : GG) (x0 : Int32) (σ : St) (res : Int32 × St) (hf : f_J6_bitCount_0f7a4 x0 σ = some res) : CI l yJ6_bitCount_0f7a4 wsJ6_bitCount_0f7a4 0 [.int x0] G σ (fun r u => r = res.1 ∧ u = res.2) := by
  refine x_ent (ret := (some .int)) cJ6_bitCount_0f7a4 1 (by decide) rfl (Nat.le_of_ble_eq_true rfl) ?_
  intro p e s m below meth c ls C hR hS hl
  have C : Cx p s m [.int x0].toArray meth c cJ6_bitCount_0f7a4 RJ6 wsJ6_bitCount_0f7a4 (some .int) 1 G := C
  have hx := C.1
  have hb := C.2.1
  have hl : lv_has ls 1 [(0, .int x0)] := hl
  unfold f_J6_bitCount_0f7a4 at hf
  refine lv_iload_n hx hb dJ6_bitCount_0f7a4_0 rfl (lv_at hl 0 rfl) ?_
  refine lv_iload_n hx hb dJ6_bitCount_0f7a4_1 rfl (lv_at hl 0 rfl) ?_
  refine lv_iconst (v := 1) hx hb dJ6_bitCount_0f7a4_2 (by decide) ?_
  refine lv_iushr (v := (x0.toUInt32 >>> (Int32.toUInt32 1 &&& Int32.toUInt32 31)).toInt32) hx hb dJ6_bitCount_0f7a4_3 rfl ?_
  refine lv_ldcw (v := 1431655765) hx hb C.2.2.2.2.1 (C.2.2.2.2.2.1 _ (List.mem_of_getElem? (i := 1) rfl)) dJ6_bitCount_0f7a4_4 ?_
  refine lv_iand hx hb dJ6_bitCount_0f7a4_7 ?_
  refine lv_isub hx hb dJ6_bitCount_0f7a4_8 ?_
  refine lv_istore_n (lv' := [(0, .int (x0 - (((x0.toUInt32 >>> (Int32.toUInt32 1 &&& Int32.toUInt32 31)).toInt32) &&& 1431655765)))]) hx hb dJ6_bitCount_0f7a4_9 rfl hl (by decide) rfl (fun ls hl => ?_)
  refine lv_iload_n hx hb dJ6_bitCount_0f7a4_10 rfl (lv_at hl 0 rfl) ?_
  refine lv_ldcw (v := 858993459) hx hb C.2.2.2.2.1 (C.2.2.2.2.2.1 _ (List.mem_of_getElem? (i := 2) rfl)) dJ6_bitCount_0f7a4_11 ?_
  refine lv_iand hx hb dJ6_bitCount_0f7a4_14 ?_
  refine lv_iload_n hx hb dJ6_bitCount_0f7a4_15 rfl (lv_at hl 0 rfl) ?_
  refine lv_iconst (v := 2) hx hb dJ6_bitCount_0f7a4_16 (by decide) ?_
  refine lv_iushr (v := ((x0 - (((x0.toUInt32 >>> (Int32.toUInt32 1 &&& Int32.toUInt32 31)).toInt32) &&& 1431655765)).toUInt32 >>> (Int32.toUInt32 2 &&& Int32.toUInt32 31)).toInt32) hx hb dJ6_bitCount_0f7a4_17 rfl ?_
  refine lv_ldcw (v := 858993459) hx hb C.2.2.2.2.1 (C.2.2.2.2.2.1 _ (List.mem_of_getElem? (i := 2) rfl)) dJ6_bitCount_0f7a4_18 ?_
  refine lv_iand hx hb dJ6_bitCount_0f7a4_21 ?_
  refine lv_iadd hx hb dJ6_bitCount_0f7a4_22 ?_
  refine lv_istore_n (lv' := [(0, .int (((x0 - (((x0.toUInt32 >>> (Int32.toUInt32 1 &&& Int32.toUInt32 31)).toInt32) &&& 1431655765)) &&& 858993459) + ((((x0 - (((x0.toUInt32 >>> (Int32.toUInt32 1 &&& Int32.toUInt32 31)).toInt32) &&& 1431655765)).toUInt32 >>> (Int32.toUInt32 2 &&& Int32.toUInt32 31)).toInt32) &&& 858993459)))]) hx hb dJ6_bitCount_0f7a4_23 rfl hl (by decide) rfl (fun ls hl => ?_)
  refine lv_iload_n hx hb dJ6_bitCount_0f7a4_24 rfl (lv_at hl 0 rfl) ?_
  refine lv_iload_n hx hb dJ6_bitCount_0f7a4_25 rfl (lv_at hl 0 rfl) ?_
  refine lv_iconst (v := 4) hx hb dJ6_bitCount_0f7a4_26 (by decide) ?_
  refine lv_iushr (v := ((((x0 - (((x0.toUInt32 >>> (Int32.toUInt32 1 &&& Int32.toUInt32 31)).toInt32) &&& 1431655765)) &&& 858993459) + ((((x0 - (((x0.toUInt32 >>> (Int32.toUInt32 1 &&& Int32.toUInt32 31)).toInt32) &&& 1431655765)).toUInt32 >>> (Int32.toUInt32 2 &&& Int32.toUInt32 31)).toInt32) &&& 858993459)).toUInt32 >>> (Int32.toUInt32 4 &&& Int32.toUInt32 31)).toInt32) hx hb dJ6_bitCount_0f7a4_27 rfl ?_
  refine lv_iadd hx hb dJ6_bitCount_0f7a4_28 ?_
  refine lv_ldcw (v := 252645135) hx hb C.2.2.2.2.1 (C.2.2.2.2.2.1 _ (List.mem_of_getElem? (i := 3) rfl)) dJ6_bitCount_0f7a4_29 ?_
  refine lv_iand hx hb dJ6_bitCount_0f7a4_32 ?_
  refine lv_istore_n (lv' := [(0, .int (((((x0 - (((x0.toUInt32 >>> (Int32.toUInt32 1 &&& Int32.toUInt32 31)).toInt32) &&& 1431655765)) &&& 858993459) + ((((x0 - (((x0.toUInt32 >>> (Int32.toUInt32 1 &&& Int32.toUInt32 31)).toInt32) &&& 1431655765)).toUInt32 >>> (Int32.toUInt32 2 &&& Int32.toUInt32 31)).toInt32) &&& 858993459)) + (((((x0 - (((x0.toUInt32 >>> (Int32.toUInt32 1 &&& Int32.toUInt32 31)).toInt32) &&& 1431655765)) &&& 858993459) + ((((x0 - (((x0.toUInt32 >>> (Int32.toUInt32 1 &&& Int32.toUInt32 31)).toInt32) &&& 1431655765)).toUInt32 >>> (Int32.toUInt32 2 &&& Int32.toUInt32 31)).toInt32) &&& 858993459)).toUInt32 >>> (Int32.toUInt32 4 &&& Int32.toUInt32 31)).toInt32)) &&& 252645135))]) hx hb dJ6_bitCount_0f7a4_33 rfl hl (by decide) rfl (fun ls hl => ?_)
  refine lv_iload_n hx hb dJ6_bitCount_0f7a4_34 rfl (lv_at hl 0 rfl) ?_
  refine lv_iload_n hx hb dJ6_bitCount_0f7a4_35 rfl (lv_at hl 0 rfl) ?_
  refine lv_bipush (v := 8) hx hb dJ6_bitCount_0f7a4_36 (by decide) ?_
  refine lv_iushr (v := ((((((x0 - (((x0.toUInt32 >>> (Int32.toUInt32 1 &&& Int32.toUInt32 31)).toInt32) &&& 1431655765)) &&& 858993459) + ((((x0 - (((x0.toUInt32 >>> (Int32.toUInt32 1 &&& Int32.toUInt32 31)).toInt32) &&& 1431655765)).toUInt32 >>> (Int32.toUInt32 2 &&& Int32.toUInt32 31)).toInt32) &&& 858993459)) + (((((x0 - (((x0.toUInt32 >>> (Int32.toUInt32 1 &&& Int32.toUInt32 31)).toInt32) &&& 1431655765)) &&& 858993459) + ((((x0 - (((x0.toUInt32 >>> (Int32.toUInt32 1 &&& Int32.toUInt32 31)).toInt32) &&& 1431655765)).toUInt32 >>> (Int32.toUInt32 2 &&& Int32.toUInt32 31)).toInt32) &&& 858993459)).toUInt32 >>> (Int32.toUInt32 4 &&& Int32.toUInt32 31)).toInt32)) &&& 252645135).toUInt32 >>> (Int32.toUInt32 8 &&& Int32.toUInt32 31)).toInt32) hx hb dJ6_bitCount_0f7a4_38 rfl ?_
  refine lv_iadd hx hb dJ6_bitCount_0f7a4_39 ?_
  refine lv_istore_n (lv' := [(0, .int ((((((x0 - (((x0.toUInt32 >>> (Int32.toUInt32 1 &&& Int32.toUInt32 31)).toInt32) &&& 1431655765)) &&& 858993459) + ((((x0 - (((x0.toUInt32 >>> (Int32.toUInt32 1 &&& Int32.toUInt32 31)).toInt32) &&& 1431655765)).toUInt32 >>> (Int32.toUInt32 2 &&& Int32.toUInt32 31)).toInt32) &&& 858993459)) + (((((x0 - (((x0.toUInt32 >>> (Int32.toUInt32 1 &&& Int32.toUInt32 31)).toInt32) &&& 1431655765)) &&& 858993459) + ((((x0 - (((x0.toUInt32 >>> (Int32.toUInt32 1 &&& Int32.toUInt32 31)).toInt32) &&& 1431655765)).toUInt32 >>> (Int32.toUInt32 2 &&& Int32.toUInt32 31)).toInt32) &&& 858993459)).toUInt32 >>> (Int32.toUInt32 4 &&& Int32.toUInt32 31)).toInt32)) &&& 252645135) + (((((((x0 - (((x0.toUInt32 >>> (Int32.toUInt32 1 &&& Int32.toUInt32 31)).toInt32) &&& 1431655765)) &&& 858993459) + ((((x0 - (((x0.toUInt32 >>> (Int32.toUInt32 1 &&& Int32.toUInt32 31)).toInt32) &&& 1431655765)).toUInt32 >>> (Int32.toUInt32 2 &&& Int32.toUInt32 31)).toInt32) &&& 858993459)) + (((((x0 - (((x0.toUInt32 >>> (Int32.toUInt32 1 &&& Int32.toUInt32 31)).toInt32) &&& 1431655765)) &&& 858993459) + ((((x0 - (((x0.toUInt32 >>> (Int32.toUInt32 1 &&& Int32.toUInt32 31)).toInt32) &&& 1431655765)).toUInt32 >>> (Int32.toUInt32 2 &&& Int32.toUInt32 31)).toInt32) &&& 858993459)).toUInt32 >>> (Int32.toUInt32 4 &&& Int32.toUInt32 31)).toInt32)) &&& 252645135).toUInt32 >>> (Int32.toUInt32 8 &&& Int32.toUInt32 31)).toInt32)))]) hx hb dJ6_bitCount_0f7a4_40 rfl hl (by decide) rfl (fun ls hl => ?_)
  refine lv_iload_n hx hb dJ6_bitCount_0f7a4_41 rfl (lv_at hl 0 rfl) ?_
  refine lv_iload_n hx hb dJ6_bitCount_0f7a4_42 rfl (lv_at hl 0 rfl) ?_
  refine lv_bipush (v := 16) hx hb dJ6_bitCount_0f7a4_43 (by decide) ?_
  refine lv_iushr (v := (((((((x0 - (((x0.toUInt32 >>> (Int32.toUInt32 1 &&& Int32.toUInt32 31)).toInt32) &&& 1431655765)) &&& 858993459) + ((((x0 - (((x0.toUInt32 >>> (Int32.toUInt32 1 &&& Int32.toUInt32 31)).toInt32) &&& 1431655765)).toUInt32 >>> (Int32.toUInt32 2 &&& Int32.toUInt32 31)).toInt32) &&& 858993459)) + (((((x0 - (((x0.toUInt32 >>> (Int32.toUInt32 1 &&& Int32.toUInt32 31)).toInt32) &&& 1431655765)) &&& 858993459) + ((((x0 - (((x0.toUInt32 >>> (Int32.toUInt32 1 &&& Int32.toUInt32 31)).toInt32) &&& 1431655765)).toUInt32 >>> (Int32.toUInt32 2 &&& Int32.toUInt32 31)).toInt32) &&& 858993459)).toUInt32 >>> (Int32.toUInt32 4 &&& Int32.toUInt32 31)).toInt32)) &&& 252645135) + (((((((x0 - (((x0.toUInt32 >>> (Int32.toUInt32 1 &&& Int32.toUInt32 31)).toInt32) &&& 1431655765)) &&& 858993459) + ((((x0 - (((x0.toUInt32 >>> (Int32.toUInt32 1 &&& Int32.toUInt32 31)).toInt32) &&& 1431655765)).toUInt32 >>> (Int32.toUInt32 2 &&& Int32.toUInt32 31)).toInt32) &&& 858993459)) + (((((x0 - (((x0.toUInt32 >>> (Int32.toUInt32 1 &&& Int32.toUInt32 31)).toInt32) &&& 1431655765)) &&& 858993459) + ((((x0 - (((x0.toUInt32 >>> (Int32.toUInt32 1 &&& Int32.toUInt32 31)).toInt32) &&& 1431655765)).toUInt32 >>> (Int32.toUInt32 2 &&& Int32.toUInt32 31)).toInt32) &&& 858993459)).toUInt32 >>> (Int32.toUInt32 4 &&& Int32.toUInt32 31)).toInt32)) &&& 252645135).toUInt32 >>> (Int32.toUInt32 8 &&& Int32.toUInt32 31)).toInt32)).toUInt32 >>> (Int32.toUInt32 16 &&& Int32.toUInt32 31)).toInt32) hx hb dJ6_bitCount_0f7a4_45 rfl ?_
  refine lv_iadd hx hb dJ6_bitCount_0f7a4_46 ?_
  refine lv_istore_n (lv' := [(0, .int (((((((x0 - (((x0.toUInt32 >>> (Int32.toUInt32 1 &&& Int32.toUInt32 31)).toInt32) &&& 1431655765)) &&& 858993459) + ((((x0 - (((x0.toUInt32 >>> (Int32.toUInt32 1 &&& Int32.toUInt32 31)).toInt32) &&& 1431655765)).toUInt32 >>> (Int32.toUInt32 2 &&& Int32.toUInt32 31)).toInt32) &&& 858993459)) + (((((x0 - (((x0.toUInt32 >>> (Int32.toUInt32 1 &&& Int32.toUInt32 31)).toInt32) &&& 1431655765)) &&& 858993459) + ((((x0 - (((x0.toUInt32 >>> (Int32.toUInt32 1 &&& Int32.toUInt32 31)).toInt32) &&& 1431655765)).toUInt32 >>> (Int32.toUInt32 2 &&& Int32.toUInt32 31)).toInt32) &&& 858993459)).toUInt32 >>> (Int32.toUInt32 4 &&& Int32.toUInt32 31)).toInt32)) &&& 252645135) + (((((((x0 - (((x0.toUInt32 >>> (Int32.toUInt32 1 &&& Int32.toUInt32 31)).toInt32) &&& 1431655765)) &&& 858993459) + ((((x0 - (((x0.toUInt32 >>> (Int32.toUInt32 1 &&& Int32.toUInt32 31)).toInt32) &&& 1431655765)).toUInt32 >>> (Int32.toUInt32 2 &&& Int32.toUInt32 31)).toInt32) &&& 858993459)) + (((((x0 - (((x0.toUInt32 >>> (Int32.toUInt32 1 &&& Int32.toUInt32 31)).toInt32) &&& 1431655765)) &&& 858993459) + ((((x0 - (((x0.toUInt32 >>> (Int32.toUInt32 1 &&& Int32.toUInt32 31)).toInt32) &&& 1431655765)).toUInt32 >>> (Int32.toUInt32 2 &&& Int32.toUInt32 31)).toInt32) &&& 858993459)).toUInt32 >>> (Int32.toUInt32 4 &&& Int32.toUInt32 31)).toInt32)) &&& 252645135).toUInt32 >>> (Int32.toUInt32 8 &&& Int32.toUInt32 31)).toInt32)) + ((((((((x0 - (((x0.toUInt32 >>> (Int32.toUInt32 1 &&& Int32.toUInt32 31)).toInt32) &&& 1431655765)) &&& 858993459) + ((((x0 - (((x0.toUInt32 >>> (Int32.toUInt32 1 &&& Int32.toUInt32 31)).toInt32) &&& 1431655765)).toUInt32 >>> (Int32.toUInt32 2 &&& Int32.toUInt32 31)).toInt32) &&& 858993459)) + (((((x0 - (((x0.toUInt32 >>> (Int32.toUInt32 1 &&& Int32.toUInt32 31)).toInt32) &&& 1431655765)) &&& 858993459) + ((((x0 - (((x0.toUInt32 >>> (Int32.toUInt32 1 &&& Int32.toUInt32 31)).toInt32) &&& 1431655765)).toUInt32 >>> (Int32.toUInt32 2 &&& Int32.toUInt32 31)).toInt32) &&& 858993459)).toUInt32 >>> (Int32.toUInt32 4 &&& Int32.toUInt32 31)).toInt32)) &&& 252645135) + (((((((x0 - (((x0.toUInt32 >>> (Int32.toUInt32 1 &&& Int32.toUInt32 31)).toInt32) &&& 1431655765)) &&& 858993459) + ((((x0 - (((x0.toUInt32 >>> (Int32.toUInt32 1 &&& Int32.toUInt32 31)).toInt32) &&& 1431655765)).toUInt32 >>> (Int32.toUInt32 2 &&& Int32.toUInt32 31)).toInt32) &&& 858993459)) + (((((x0 - (((x0.toUInt32 >>> (Int32.toUInt32 1 &&& Int32.toUInt32 31)).toInt32) &&& 1431655765)) &&& 858993459) + ((((x0 - (((x0.toUInt32 >>> (Int32.toUInt32 1 &&& Int32.toUInt32 31)).toInt32) &&& 1431655765)).toUInt32 >>> (Int32.toUInt32 2 &&& Int32.toUInt32 31)).toInt32) &&& 858993459)).toUInt32 >>> (Int32.toUInt32 4 &&& Int32.toUInt32 31)).toInt32)) &&& 252645135).toUInt32 >>> (Int32.toUInt32 8 &&& Int32.toUInt32 31)).toInt32)).toUInt32 >>> (Int32.toUInt32 16 &&& Int32.toUInt32 31)).toInt32)))]) hx hb dJ6_bitCount_0f7a4_47 rfl hl (by decide) rfl (fun ls hl => ?_)
  refine lv_iload_n hx hb dJ6_bitCount_0f7a4_48 rfl (lv_at hl 0 rfl) ?_
  refine lv_bipush (v := 63) hx hb dJ6_bitCount_0f7a4_49 (by decide) ?_
  refine lv_iand hx hb dJ6_bitCount_0f7a4_51 ?_
  obtain rfl := Option.some.inj hf
  exact x_iret C hR hS dJ6_bitCount_0f7a4_52 ⟨rfl, rfl⟩
theorem hdS_J6_compare_7cf53 : yJ6_compare_7cf53.cls ≠ "java/lang/invoke/MethodHandle" ∧ yJ6_compare_7cf53.cls ≠ "java/lang/invoke/VarHandle" ∧ (parseMethodDescriptor yJ6_compare_7cf53.desc).map (fun d => d.parameters.length) = some 2 := by decide +kernel
def f_J6_compare_7cf53 (x0 : Int32) (x1 : Int32) (σ : St) : Option (Int32 × St) :=
  (if x1 ≤ x0 then (if x0 = x1 then some (0, σ) else some (1, σ)) else some ((-1), σ))
set_option maxHeartbeats 4000000 in
set_option maxRecDepth 100000 in
theorem c_J6_compare_7cf53 (l : Launch) (G : GG) (x0 : Int32) (x1 : Int32) (σ : St) (res : Int32 × St) (hf : f_J6_compare_7cf53 x0 x1 σ = some res) : CI l yJ6_compare_7cf53 wsJ6_compare_7cf53 0 [.int x0, .int x1] G σ (fun r u => r = res.1 ∧ u = res.2) := by
  refine x_ent (ret := (some .int)) cJ6_compare_7cf53 2 (by decide) rfl (Nat.le_of_ble_eq_true rfl) ?_
  intro p e s m below meth c ls C hR hS hl
  have C : Cx p s m [.int x0, .int x1].toArray meth c cJ6_compare_7cf53 RJ6 wsJ6_compare_7cf53 (some .int) 2 G := C
  have hx := C.1
  have hb := C.2.1
  have hl : lv_has ls 2 [(0, .int x0), (1, .int x1)] := hl
  unfold f_J6_compare_7cf53 at hf
  refine lv_iload_n hx hb dJ6_compare_7cf53_0 rfl (lv_at hl 0 rfl) ?_
  refine lv_iload_n hx hb dJ6_compare_7cf53_1 rfl (lv_at hl 1 rfl) ?_
  refine lv_icmp_ge (tgt := 9) hx hb dJ6_compare_7cf53_2 (by decide) (fun c_2 => ?_) (fun c_2 => ?_)
  · replace hf := (if_pos c_2).symm.trans hf
    refine lv_iload_n hx hb dJ6_compare_7cf53_9 rfl (lv_at hl 0 rfl) ?_
    refine lv_iload_n hx hb dJ6_compare_7cf53_10 rfl (lv_at hl 1 rfl) ?_
    refine lv_icmp_ne (tgt := 18) hx hb dJ6_compare_7cf53_11 (by decide) (fun c_11 => ?_) (fun c_11 => ?_)
    · replace hf := (if_neg c_11).symm.trans hf
      refine lv_iconst (v := 1) hx hb dJ6_compare_7cf53_18 (by decide) ?_
      obtain rfl := Option.some.inj hf
      exact x_iret C hR hS dJ6_compare_7cf53_19 ⟨rfl, rfl⟩
    · replace hf := (if_pos c_11).symm.trans hf
      refine lv_iconst (v := 0) hx hb dJ6_compare_7cf53_14 (by decide) ?_
      refine lv_goto (tgt := 19) hx hb dJ6_compare_7cf53_15 (by decide) ?_
      obtain rfl := Option.some.inj hf
      exact x_iret C hR hS dJ6_compare_7cf53_19 ⟨rfl, rfl⟩
  · replace hf := (if_neg c_2).symm.trans hf
    refine lv_iconst (v := (-1)) hx hb dJ6_compare_7cf53_5 (by decide) ?_
    refine lv_goto (tgt := 19) hx hb dJ6_compare_7cf53_6 (by decide) ?_
    obtain rfl := Option.some.inj hf
    exact x_iret C hR hS dJ6_compare_7cf53_19 ⟨rfl, rfl⟩
