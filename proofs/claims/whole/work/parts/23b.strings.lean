/-! the two texts "flight" (0) and "lock" (1): length and charAt of the JDK -/
def sLn (i : Nat) : Nat := [6, 4].getD i 0
def sBy (i j : Nat) : Int32 := ([[102, 108, 105, 103, 104, 116], [108, 111, 99, 107]].getD i []).getD j 0
section XS
variable {p : Program} {l : Launch} {e : Env} {R : Room} {s : State} {m : MethodId} {args : Array Value} {below : List Frame} {meth : Method} {c : Code} {H : Heap} {locs : List Loc} {cells slots : Nat} {Q : State → Prop} {cc : ByteArray} {pc : Nat} {ls : Array Slot} {rest : List Value} {own : String} {Ts : List Cond} {ret : Option FieldType} {nL : Nat} {G : GG} {σ : St}
theorem x_nret {Qf : Int32 → St → Prop} {v : Int32} {ty : FieldType} (C : Cx p s m args meth c cc own Ts (some ty) nL G) (hR : Rp G σ H) (hS : va_S (AA G) s.heap H locs) (hdg : decode cc pc = .ok (.ireturn, 1)) (hn : narrow ty (.int v) = .int v) (hq : Qf v σ) : W p l e R s m args below meth c H locs 0 0 (MQ below (va_Qi Qf (PB G) (AA G)) args s 0 0 (AA G)) (F0 m pc ls [.int v]) :=
  W.zret C.1 C.2.1 C.2.2.1 hn (fun t ht _ => ⟨⟨v, σ, rfl, hq, by show Rp G σ t.heap; rw [ht]; exact hR⟩, hS.F ht⟩) hS.2.2 hdg C.2.2.2.2.2.2.1
variable {y : MethodName} {bytes : ByteArray} {maxL n index d : Nat} {rt : Option FieldType} {ws ws' : List Cond} {As : List Value} {st0 : List Value}
theorem x_cwI {Qf : Int32 → St → Prop} {b : Nat} {CC : String} (C : Cx p s m args meth c cc own Ts ret nL G) (hl : ls.size = nL) (hR : Rp G σ H) (hS : va_S (AA G) s.heap H locs) (hM : CI l y ws d (.ref b :: As) G σ Qf) (hG : GoodIn Ts (wsV own index CC y ws)) (hw : ws = Cond.code y bytes maxL rt :: ws') (hd : y.cls = CC ∧ y.cls ≠ "java/lang/invoke/MethodHandle" ∧ y.cls ≠ "java/lang/invoke/VarHandle" ∧ (parseMethodDescriptor y.desc).map (fun d => d.parameters.length) = some n) (hr : d + 1 ≤ R.frames ∧ 8 + (maxL + 11) + 36 * d ≤ R.locals) (hrec : ∃ cell : Cell, H[b]? = some cell ∧ cell.vm.isStatics = false ∧ s.vm.findClass CC = some cell.cls) (hn : As.length = n) (hst : st0 = As.reverse ++ .ref b :: rest) (hW : (rest.map fun v => v.category).sum ≤ 8) (hcs : cells ≤ R.cells ∧ slots ≤ R.slots) (hdg : decode cc pc = .ok (.invokevirtual index, 3))
    (kk : ∀ (r : Int32) (u : St) (H1 : Heap) (locs1 : List Loc), Qf r u → Rp G u H1 → va_S (AA G) s.heap H1 locs1 → W p l e R s m args below meth c H1 locs1 cells slots Q (F0 m (pc + 3) ls (.int r :: rest))) : W p l e R s m args below meth c H locs cells slots Q (F0 m pc ls st0) := by
  obtain ⟨hx, hb, hrr, hml, hown, hts, hlk, hI, hK, hZ⟩ := C
  exact va_calli (va_runV (As := As) (rest := rest) ⟨hx, hb, hml, hown, hts⟩ hM (cwV n hts hG hw rfl rfl hd hr) ⟨Pr_blind G σ _, hrec, fun U hU hWm => ⟨rfl, hI, by rw [hU]; exact hR, hK.warm hWm, by rw [hU]; exact (hZ.kept hS.2.1).moved hWm.alike⟩⟩ rfl hn hl hst (lv_room hW) hdg hcs) hS (fun q _ h => h) (fun q h => h) (fun r u t H1 locs1 ht hvm hq hB hz hk1 hS1 => kk r u H1 locs1 hq (by rw [← ht]; exact hB) hS1)
end XS
theorem hdV_J0_coder_7d493 : yJ0_coder_7d493.cls = RJ0 ∧ yJ0_coder_7d493.cls ≠ "java/lang/invoke/MethodHandle" ∧ yJ0_coder_7d493.cls ≠ "java/lang/invoke/VarHandle" ∧ (parseMethodDescriptor yJ0_coder_7d493.desc).map (fun d => d.parameters.length) = some 0 := by decide +kernel
theorem hdV_J0_length_8abf5 : yJ0_length_8abf5.cls = RJ0 ∧ yJ0_length_8abf5.cls ≠ "java/lang/invoke/MethodHandle" ∧ yJ0_length_8abf5.cls ≠ "java/lang/invoke/VarHandle" ∧ (parseMethodDescriptor yJ0_length_8abf5.desc).map (fun d => d.parameters.length) = some 0 := by decide +kernel
theorem hdV_J0_isLatin1_aae02 : yJ0_isLatin1_aae02.cls = RJ0 ∧ yJ0_isLatin1_aae02.cls ≠ "java/lang/invoke/MethodHandle" ∧ yJ0_isLatin1_aae02.cls ≠ "java/lang/invoke/VarHandle" ∧ (parseMethodDescriptor yJ0_isLatin1_aae02.desc).map (fun d => d.parameters.length) = some 0 := by decide +kernel
theorem hdV_J0_charAt_5068e : yJ0_charAt_5068e.cls = RJ0 ∧ yJ0_charAt_5068e.cls ≠ "java/lang/invoke/MethodHandle" ∧ yJ0_charAt_5068e.cls ≠ "java/lang/invoke/VarHandle" ∧ (parseMethodDescriptor yJ0_charAt_5068e.desc).map (fun d => d.parameters.length) = some 1 := by decide +kernel
theorem hdS_J1_charAt_3b067 : yJ1_charAt_3b067.cls ≠ "java/lang/invoke/MethodHandle" ∧ yJ1_charAt_3b067.cls ≠ "java/lang/invoke/VarHandle" ∧ (parseMethodDescriptor yJ1_charAt_3b067.desc).map (fun d => d.parameters.length) = some 2 := by decide +kernel
theorem hdS_J0_checkIndex_df160 : yJ0_checkIndex_df160.cls ≠ "java/lang/invoke/MethodHandle" ∧ yJ0_checkIndex_df160.cls ≠ "java/lang/invoke/VarHandle" ∧ (parseMethodDescriptor yJ0_checkIndex_df160.desc).map (fun d => d.parameters.length) = some 2 := by decide +kernel
theorem hdS_J3_checkIndex_8e157 : yJ3_checkIndex_8e157.cls ≠ "java/lang/invoke/MethodHandle" ∧ yJ3_checkIndex_8e157.cls ≠ "java/lang/invoke/VarHandle" ∧ (parseMethodDescriptor yJ3_checkIndex_8e157.desc).map (fun d => d.parameters.length) = some 3 := by decide +kernel
set_option maxHeartbeats 4000000 in
set_option maxRecDepth 100000 in
theorem c_J0_coder (l : Launch) (G : GG) (i : Nat) (hi : i < 2) (σ : St) : CI l yJ0_coder_7d493 wsJ0_coder_7d493 0 [.ref (G.2.2.2.2.1 i)] G σ (fun r u => r = 0 ∧ u = σ) := by
  refine x_ent (ret := (some .byte)) cJ0_coder_7d493 1 (by decide) rfl (Nat.le_of_ble_eq_true rfl) ?_
  intro p e s m below meth c ls C hR hS hl
  have C : Cx p s m [.ref (G.2.2.2.2.1 i)].toArray meth c cJ0_coder_7d493 RJ0 wsJ0_coder_7d493 (some .byte) 1 G := C
  have hx := C.1
  have hb := C.2.1
  have hl : lv_has ls 1 [(0, .ref (G.2.2.2.2.1 i))] := hl
  refine va_gets hx hb C.2.2.2.2.2.2.2.2.2.2.1 hS C.2.2.2.2.1 (C.2.2.2.2.2.1 _ (List.mem_of_getElem? (i := 1) rfl)) (fun _ h => h) dJ0_coder_7d493_0 ?_
  refine lv_if_eq (tgt := 13) hx hb dJ0_coder_7d493_3 (by decide) (fun c_3 => absurd c_3 (by decide)) (fun c_3 => ?_)
  refine lv_aload_n hx hb dJ0_coder_7d493_6 rfl (lv_at hl 0 rfl) ?_
  refine vk_getf hx hb (C.2.2.2.2.2.2.2.2.2.1.1 i hi).2.1 hS C.2.2.2.2.1 (C.2.2.2.2.2.1 _ (List.mem_of_getElem? (i := 2) rfl)) (fun _ h => h) dJ0_coder_7d493_7 ?_
  refine lv_goto (tgt := 14) hx hb dJ0_coder_7d493_10 (by decide) ?_
  exact x_nret C hR hS dJ0_coder_7d493_14 rfl ⟨rfl, rfl⟩
set_option maxHeartbeats 4000000 in
set_option maxRecDepth 100000 in
theorem c_J0_isLatin1 (l : Launch) (G : GG) (i : Nat) (hi : i < 2) (σ : St) : CI l yJ0_isLatin1_aae02 wsJ0_isLatin1_aae02 0 [.ref (G.2.2.2.2.1 i)] G σ (fun r u => r = 1 ∧ u = σ) := by
  refine x_ent (ret := (some .boolean)) cJ0_isLatin1_aae02 1 (by decide) rfl (Nat.le_of_ble_eq_true rfl) ?_
  intro p e s m below meth c ls C hR hS hl
  have C : Cx p s m [.ref (G.2.2.2.2.1 i)].toArray meth c cJ0_isLatin1_aae02 RJ0 wsJ0_isLatin1_aae02 (some .boolean) 1 G := C
  have hx := C.1
  have hb := C.2.1
  have hl : lv_has ls 1 [(0, .ref (G.2.2.2.2.1 i))] := hl
  refine va_gets hx hb C.2.2.2.2.2.2.2.2.2.2.1 hS C.2.2.2.2.1 (C.2.2.2.2.2.1 _ (List.mem_of_getElem? (i := 1) rfl)) (fun _ h => h) dJ0_isLatin1_aae02_0 ?_
  refine lv_if_eq (tgt := 17) hx hb dJ0_isLatin1_aae02_3 (by decide) (fun c_3 => absurd c_3 (by decide)) (fun c_3 => ?_)
  refine lv_aload_n hx hb dJ0_isLatin1_aae02_6 rfl (lv_at hl 0 rfl) ?_
  refine vk_getf hx hb (C.2.2.2.2.2.2.2.2.2.1.1 i hi).2.1 hS C.2.2.2.2.1 (C.2.2.2.2.2.1 _ (List.mem_of_getElem? (i := 2) rfl)) (fun _ h => h) dJ0_isLatin1_aae02_7 ?_
  refine lv_if_ne (tgt := 17) hx hb dJ0_isLatin1_aae02_10 (by decide) (fun c_3 => absurd rfl c_3) (fun c_3 => ?_)
  refine lv_iconst (v := 1) hx hb dJ0_isLatin1_aae02_13 (by decide) ?_
  refine lv_goto (tgt := 18) hx hb dJ0_isLatin1_aae02_14 (by decide) ?_
  exact x_nret C hR hS dJ0_isLatin1_aae02_18 rfl ⟨rfl, rfl⟩
set_option maxHeartbeats 4000000 in
set_option maxRecDepth 100000 in
theorem c_J3_checkIndex (l : Launch) (G : GG) (x0 x1 : Int32) (v : Value) (hv : v.category = 1) (h0 : ¬ x0 < 0) (h1 : x0 < x1) (σ : St) : CI l yJ3_checkIndex_8e157 wsJ3_checkIndex_8e157 0 [.int x0, .int x1, v] G σ (fun r u => r = x0 ∧ u = σ) := by
  refine x_ent (ret := (some .int)) cJ3_checkIndex_8e157 3 (by decide) rfl (by simp [lg_sl, hv, show (Value.int x0).category = 1 from rfl, show (Value.int x1).category = 1 from rfl]) ?_
  intro p e s m below meth c ls C hR hS hl
  have C : Cx p s m [.int x0, .int x1, v].toArray meth c cJ3_checkIndex_8e157 RJ3 wsJ3_checkIndex_8e157 (some .int) 3 G := C
  have hx := C.1
  have hb := C.2.1
  have hl : lv_has ls 3 [(0, .int x0), (1, .int x1), (2, v)] := hl
  refine lv_iload_n hx hb dJ3_checkIndex_8e157_0 rfl (lv_at hl 0 rfl) ?_
  refine lv_if_lt (tgt := 9) hx hb dJ3_checkIndex_8e157_1 (by decide) (fun c_1 => absurd c_1 h0) (fun c_1 => ?_)
  refine lv_iload_n hx hb dJ3_checkIndex_8e157_4 rfl (lv_at hl 0 rfl) ?_
  refine lv_iload_n hx hb dJ3_checkIndex_8e157_5 rfl (lv_at hl 1 rfl) ?_
  refine lv_icmp_lt (tgt := 16) hx hb dJ3_checkIndex_8e157_6 (by decide) (fun c_1 => ?_) (fun c_1 => absurd h1 c_1)
  refine lv_iload_n hx hb dJ3_checkIndex_8e157_16 rfl (lv_at hl 0 rfl) ?_
  exact x_iret C hR hS dJ3_checkIndex_8e157_17 ⟨rfl, rfl⟩
set_option maxHeartbeats 4000000 in
set_option maxRecDepth 100000 in
theorem c_J0_checkIndex (l : Launch) (G : GG) (x0 x1 : Int32) (h0 : ¬ x0 < 0) (h1 : x0 < x1) (σ : St) : CV l yJ0_checkIndex_df160 wsJ0_checkIndex_df160 1 [.int x0, .int x1] G σ (fun u => u = σ) := by
  refine x_ent (ret := none) cJ0_checkIndex_df160 2 (by decide) rfl (Nat.le_of_ble_eq_true rfl) ?_
  intro p e s m below meth c ls C hR hS hl
  have C : Cx p s m [.int x0, .int x1].toArray meth c cJ0_checkIndex_df160 RJ0 wsJ0_checkIndex_df160 none 2 G := C
  have hx := C.1
  have hb := C.2.1
  have hl : lv_has ls 2 [(0, .int x0), (1, .int x1)] := hl
  have key : ∀ v : Value, v.category = 1 → va_Z "jdk/internal/util/Preconditions" "SIOOBE_FORMATTER" "Ljava/util/function/BiFunction;" v (AA G) s s.heap → W p l e (rmD 1) s m [.int x0, .int x1].toArray below meth c s.heap [] 0 0 (MQ below (va_Qv (fun u => u = σ) (PB G) (AA G)) [.int x0, .int x1].toArray s 0 0 (AA G)) (F0 m 0 ls []) := by
    intro v hv hz
    refine lv_iload_n hx hb dJ0_checkIndex_df160_0 rfl (lv_at hl 0 rfl) ?_
    refine lv_iload_n hx hb dJ0_checkIndex_df160_1 rfl (lv_at hl 1 rfl) ?_
    refine va_gets hx hb hz hS C.2.2.2.2.1 (C.2.2.2.2.2.1 _ (List.mem_of_getElem? (i := 1) rfl)) (fun _ h => h) dJ0_checkIndex_df160_2 ?_
    refine x_csI C hl.1 hR hS (c_J3_checkIndex l G x0 x1 v hv h0 h1 σ) gJ0_checkIndex_df160_J3_checkIndex_8e157 rfl hdS_J3_checkIndex_8e157 ⟨Nat.le_of_ble_eq_true rfl, Nat.le_of_ble_eq_true rfl⟩ rfl (As := [.int x0, .int x1, v]) (rest := []) rfl (Nat.le_of_ble_eq_true rfl) ⟨Nat.le_of_ble_eq_true rfl, Nat.le_of_ble_eq_true rfl⟩ dJ0_checkIndex_df160_5 (fun r u H locs hq hR hS => ?_)
    obtain ⟨-, hu⟩ := hq
    rw [hu] at hR
    refine lv_pop hx hb dJ0_checkIndex_df160_8 rfl ?_
    exact x_vret C hR hS dJ0_checkIndex_df160_9 rfl
  rcases C.2.2.2.2.2.2.2.2.2.2.2 with hz | ⟨t, hz⟩
  · exact key _ rfl hz
  · exact key _ rfl hz
def f_J0_length_8abf5 (i : Nat) (σ : St) : Option (Int32 × St) := some (Int32.ofNat (sLn i) >>> ((0 : Int32) &&& 31), σ)
set_option maxHeartbeats 4000000 in
set_option maxRecDepth 100000 in
theorem c_J0_length_8abf5 (l : Launch) (G : GG) (i : Nat) (hi : i < 2) (σ : St) (res : Int32 × St) (hf : f_J0_length_8abf5 i σ = some res) : CI l yJ0_length_8abf5 wsJ0_length_8abf5 1 [.ref (G.2.2.2.2.1 i)] G σ (fun r u => r = res.1 ∧ u = res.2) := by
  refine x_ent (ret := (some .int)) cJ0_length_8abf5 1 (by decide) rfl (Nat.le_of_ble_eq_true rfl) ?_
  intro p e s m below meth c ls C hR hS hl
  have C : Cx p s m [.ref (G.2.2.2.2.1 i)].toArray meth c cJ0_length_8abf5 RJ0 wsJ0_length_8abf5 (some .int) 1 G := C
  have hx := C.1
  have hb := C.2.1
  have hl : lv_has ls 1 [(0, .ref (G.2.2.2.2.1 i))] := hl
  obtain rfl := Option.some.inj hf
  refine lv_aload_n hx hb dJ0_length_8abf5_0 rfl (lv_at hl 0 rfl) ?_
  refine vk_getf hx hb (C.2.2.2.2.2.2.2.2.2.1.1 i hi).2.2.1 hS C.2.2.2.2.1 (C.2.2.2.2.2.1 _ (List.mem_of_getElem? (i := 1) rfl)) (fun _ h => h) dJ0_length_8abf5_1 ?_
  refine va_tlen hx hb (C.2.2.2.2.2.2.2.2.2.1.1 i hi).2.2.2 hS (v := Int32.ofNat (sLn i)) rfl dJ0_length_8abf5_4 ?_
  refine lv_aload_n hx hb dJ0_length_8abf5_5 rfl (lv_at hl 0 rfl) ?_
  refine x_cwI C hl.1 hR hS (c_J0_coder l G i hi σ) gJ0_length_8abf5_J0_coder_7d493 rfl hdV_J0_coder_7d493 ⟨Nat.le_of_ble_eq_true rfl, Nat.le_of_ble_eq_true rfl⟩ (vk_recv C.2.2.2.2.2.2.2.2.2.1 hi hS) rfl (As := []) (rest := [.int (Int32.ofNat (sLn i))]) rfl (Nat.le_of_ble_eq_true rfl) ⟨Nat.le_of_ble_eq_true rfl, Nat.le_of_ble_eq_true rfl⟩ dJ0_length_8abf5_6 (fun r u H locs hq hR hS => ?_)
  obtain ⟨rfl, hu⟩ := hq
  rw [hu] at hR
  refine lv_ishr hx hb dJ0_length_8abf5_9 ?_
  exact x_iret C hR hS dJ0_length_8abf5_10 ⟨rfl, rfl⟩
/-- a char of the text -/
def f_J0_charAt_5068e (i : Nat) (x1 : Int32) (σ : St) : Option (Int32 × St) := gd (x1 < 0 ∨ sLn i ≤ x1.toNatClampNeg ∨ ¬ x1 < Int32.ofNat (sLn i)) (some (((sBy i x1.toNatClampNeg &&& 255).toUInt32 % 65536).toInt32, σ))
set_option maxHeartbeats 4000000 in
set_option maxRecDepth 100000 in
theorem c_J1_charAt (l : Launch) (G : GG) (i : Nat) (hi : i < 2) (x1 : Int32) (h0 : ¬ x1 < 0) (h1 : x1 < Int32.ofNat (sLn i)) (h2 : ¬ sLn i ≤ x1.toNatClampNeg) (σ : St) : CI l yJ1_charAt_3b067 wsJ1_charAt_3b067 2 [.ref (G.2.2.2.2.2 i), .int x1] G σ (fun r u => r = ((sBy i x1.toNatClampNeg &&& 255).toUInt32 % 65536).toInt32 ∧ u = σ) := by
  refine x_ent (ret := (some .char)) cJ1_charAt_3b067 2 (by decide) rfl (Nat.le_of_ble_eq_true rfl) ?_
  intro p e s m below meth c ls C hR hS hl
  have C : Cx p s m [.ref (G.2.2.2.2.2 i), .int x1].toArray meth c cJ1_charAt_3b067 RJ1 wsJ1_charAt_3b067 (some .char) 2 G := C
  have hx := C.1
  have hb := C.2.1
  have hl : lv_has ls 2 [(0, .ref (G.2.2.2.2.2 i)), (1, .int x1)] := hl
  refine lv_iload_n hx hb dJ1_charAt_3b067_0 rfl (lv_at hl 1 rfl) ?_
  refine lv_aload_n hx hb dJ1_charAt_3b067_1 rfl (lv_at hl 0 rfl) ?_
  refine va_tlen hx hb (C.2.2.2.2.2.2.2.2.2.1.1 i hi).2.2.2 hS (v := Int32.ofNat (sLn i)) rfl dJ1_charAt_3b067_2 ?_
  refine x_csV C hl.1 hR hS (c_J0_checkIndex l G x1 (Int32.ofNat (sLn i)) h0 h1 σ) gJ1_charAt_3b067_J0_checkIndex_df160 rfl hdS_J0_checkIndex_df160 ⟨Nat.le_of_ble_eq_true rfl, Nat.le_of_ble_eq_true rfl⟩ rfl (As := [.int x1, .int (Int32.ofNat (sLn i))]) (rest := []) rfl (Nat.le_of_ble_eq_true rfl) ⟨Nat.le_of_ble_eq_true rfl, Nat.le_of_ble_eq_true rfl⟩ dJ1_charAt_3b067_3 (fun u H locs hq hR hS => ?_)
  rw [hq] at hR
  refine lv_aload_n hx hb dJ1_charAt_3b067_6 rfl (lv_at hl 0 rfl) ?_
  refine lv_iload_n hx hb dJ1_charAt_3b067_7 rfl (lv_at hl 1 rfl) ?_
  refine va_tb hx hb (C.2.2.2.2.2.2.2.2.2.1.1 i hi).2.2.2 hS (i := x1) (fun h => h.elim h0 h2) (v := .int (sBy i x1.toNatClampNeg)) rfl dJ1_charAt_3b067_8 ?_
  refine lv_sipush (v := 255) hx hb dJ1_charAt_3b067_9 (by decide) ?_
  refine lv_iand hx hb dJ1_charAt_3b067_12 ?_
  refine lv_i2c (v := ((sBy i x1.toNatClampNeg &&& 255).toUInt32 % 65536).toInt32) hx hb dJ1_charAt_3b067_13 rfl ?_
  exact x_nret C hR hS dJ1_charAt_3b067_14 (pk_nc _) ⟨rfl, rfl⟩
set_option maxHeartbeats 4000000 in
set_option maxRecDepth 100000 in
theorem c_J0_charAt_5068e (l : Launch) (G : GG) (i : Nat) (hi : i < 2) (x1 : Int32) (σ : St) (res : Int32 × St) (hf : f_J0_charAt_5068e i x1 σ = some res) : CI l yJ0_charAt_5068e wsJ0_charAt_5068e 3 [.ref (G.2.2.2.2.1 i), .int x1] G σ (fun r u => r = res.1 ∧ u = res.2) := by
  refine x_ent (ret := (some .char)) cJ0_charAt_5068e 2 (by decide) rfl (Nat.le_of_ble_eq_true rfl) ?_
  intro p e s m below meth c ls C hR hS hl
  have C : Cx p s m [.ref (G.2.2.2.2.1 i), .int x1].toArray meth c cJ0_charAt_5068e RJ0 wsJ0_charAt_5068e (some .char) 2 G := C
  have hx := C.1
  have hb := C.2.1
  have hl : lv_has ls 2 [(0, .ref (G.2.2.2.2.1 i)), (1, .int x1)] := hl
  obtain ⟨hg, hf⟩ := gd_some hf
  obtain rfl := Option.some.inj hf
  have h0 : ¬ x1 < 0 := fun h => hg (Or.inl h)
  have h2 : ¬ sLn i ≤ x1.toNatClampNeg := fun h => hg (Or.inr (Or.inl h))
  have h1 : x1 < Int32.ofNat (sLn i) := Classical.byContradiction fun h => hg (Or.inr (Or.inr h))
  refine lv_aload_n hx hb dJ0_charAt_5068e_0 rfl (lv_at hl 0 rfl) ?_
  refine x_cwI C hl.1 hR hS (c_J0_isLatin1 l G i hi σ) gJ0_charAt_5068e_J0_isLatin1_aae02 rfl hdV_J0_isLatin1_aae02 ⟨Nat.le_of_ble_eq_true rfl, Nat.le_of_ble_eq_true rfl⟩ (vk_recv C.2.2.2.2.2.2.2.2.2.1 hi hS) rfl (As := []) (rest := []) rfl (Nat.le_of_ble_eq_true rfl) ⟨Nat.le_of_ble_eq_true rfl, Nat.le_of_ble_eq_true rfl⟩ dJ0_charAt_5068e_1 (fun r u H locs hq hR hS => ?_)
  obtain ⟨rfl, hu⟩ := hq
  rw [hu] at hR
  refine lv_if_eq (tgt := 16) hx hb dJ0_charAt_5068e_4 (by decide) (fun c_3 => absurd c_3 (by decide)) (fun c_3 => ?_)
  refine lv_aload_n hx hb dJ0_charAt_5068e_7 rfl (lv_at hl 0 rfl) ?_
  refine vk_getf hx hb (C.2.2.2.2.2.2.2.2.2.1.1 i hi).2.2.1 hS C.2.2.2.2.1 (C.2.2.2.2.2.1 _ (List.mem_of_getElem? (i := 1) rfl)) (fun _ h => h) dJ0_charAt_5068e_8 ?_
  refine lv_iload_n hx hb dJ0_charAt_5068e_11 rfl (lv_at hl 1 rfl) ?_
  refine x_csI C hl.1 hR hS (c_J1_charAt l G i hi x1 h0 h1 h2 σ) gJ0_charAt_5068e_J1_charAt_3b067 rfl hdS_J1_charAt_3b067 ⟨Nat.le_of_ble_eq_true rfl, Nat.le_of_ble_eq_true rfl⟩ rfl (As := [.ref (G.2.2.2.2.2 i), .int x1]) (rest := []) rfl (Nat.le_of_ble_eq_true rfl) ⟨Nat.le_of_ble_eq_true rfl, Nat.le_of_ble_eq_true rfl⟩ dJ0_charAt_5068e_12 (fun r u H locs hq hR hS => ?_)
  obtain ⟨rfl, hu⟩ := hq
  rw [hu] at hR
  exact x_nret C hR hS dJ0_charAt_5068e_15 (pk_nc _) ⟨rfl, rfl⟩
