/-! the law's calls, a row each -/
set_option maxHeartbeats 4000000 in
set_option maxRecDepth 100000 in
theorem lz_reading {p : Program} {l : Launch} {e : Env} {s : State} {m : MethodId} {below : List Frame} {meth : Method} {c : Code} {G : GG} {b L : Nat} {xs : Nat → Int32} (X : LzX p s m meth c G b L xs) {x : Int32} (hin : ∀ j, j ≤ 6 → vp_in (x + nI j) L) {σ : St} (hJ : JJ σ) (kk : ∀ υ, JJ υ → LzW p l e s m below meth c G b 1242 x υ) : LzW p l e s m below meth c G b 970 x σ := by
  intro H locs ls hR hS hl
  obtain ⟨C, hX, hbl, hbA⟩ := X
  have hx := C.1
  have hb := C.2.1
  obtain ⟨r, τ, υ, hf, hg, hJ⟩ := eq_reading hJ (xs (x + nI 1).toNatClampNeg) (xs (x + nI 2).toNatClampNeg)
  refine lv_aload_n hx hb dL_law_970 rfl (lv_at hl 1 rfl) ?_
  refine lv_aload_n hx hb dL_law_971 rfl (lv_at hl 0 rfl) ?_
  refine lv_iload_n hx hb dL_law_972 rfl (lv_at hl 3 rfl) ?_
  refine lv_iconst (v := nI 1) hx hb dL_law_973 (by decide) ?_
  refine lv_iadd hx hb dL_law_974 ?_
  refine va_sld hx hb hX hbl hbA hS (hin 1 (by decide)) dL_law_975 ?_
  refine lv_aload_n hx hb dL_law_976 rfl (lv_at hl 0 rfl) ?_
  refine lv_iload_n hx hb dL_law_977 rfl (lv_at hl 3 rfl) ?_
  refine lv_iconst (v := nI 2) hx hb dL_law_978 (by decide) ?_
  refine lv_iadd hx hb dL_law_979 ?_
  refine va_sld hx hb hX hbl hbA hS (hin 2 (by decide)) dL_law_980 ?_
  refine x_cvI C hl.1 hR hS (c_X5_reading l G (xs (x + nI 1).toNatClampNeg) (xs (x + nI 2).toNatClampNeg) σ _ hf) gL_law_X5_reading rfl hdV_X5_reading ⟨Nat.le_of_ble_eq_true rfl, Nat.le_of_ble_eq_true rfl⟩ (by decide) (cz4 rfl) rfl rfl (As := [.int (xs (x + nI 1).toNatClampNeg), .int (xs (x + nI 2).toNatClampNeg)]) (rest := []) rfl (Nat.le_of_ble_eq_true rfl) ⟨Nat.le_of_ble_eq_true rfl, Nat.le_of_ble_eq_true rfl⟩ dL_law_981 (fun r1 σ1 H locs hq1 hR hS => ?_)
  have hR : Rp G τ H := by rw [hq1.2] at hR; exact hR
  refine lv_aload_n hx hb dL_law_984 rfl (lv_at hl 2 rfl) ?_
  refine lv_aload_n hx hb dL_law_985 rfl (lv_at hl 0 rfl) ?_
  refine lv_iload_n hx hb dL_law_986 rfl (lv_at hl 3 rfl) ?_
  refine lv_iconst (v := nI 1) hx hb dL_law_987 (by decide) ?_
  refine lv_iadd hx hb dL_law_988 ?_
  refine va_sld hx hb hX hbl hbA hS (hin 1 (by decide)) dL_law_989 ?_
  refine lv_aload_n hx hb dL_law_990 rfl (lv_at hl 0 rfl) ?_
  refine lv_iload_n hx hb dL_law_991 rfl (lv_at hl 3 rfl) ?_
  refine lv_iconst (v := nI 2) hx hb dL_law_992 (by decide) ?_
  refine lv_iadd hx hb dL_law_993 ?_
  refine va_sld hx hb hX hbl hbA hS (hin 2 (by decide)) dL_law_994 ?_
  refine x_cvI C hl.1 hR hS (c_X6_reading l G (xs (x + nI 1).toNatClampNeg) (xs (x + nI 2).toNatClampNeg) τ _ hg) gL_law_X6_reading rfl hdV_X6_reading ⟨Nat.le_of_ble_eq_true rfl, Nat.le_of_ble_eq_true rfl⟩ (by decide) (cz5 rfl) rfl rfl (As := [.int (xs (x + nI 1).toNatClampNeg), .int (xs (x + nI 2).toNatClampNeg)]) (rest := [.int r1]) rfl (Nat.le_of_ble_eq_true rfl) ⟨Nat.le_of_ble_eq_true rfl, Nat.le_of_ble_eq_true rfl⟩ dL_law_995 (fun r2 σ2 H locs hq2 hR hS => ?_)
  have hR : Rp G υ H := by rw [hq2.2] at hR; exact hR
  exact lv_icmp_eq (tgt := 1242) hx hb dL_law_998 (by decide) (fun _ => kk υ hJ _ _ _ hR hS hl) (fun h => absurd (hq1.1.trans hq2.1.symm) h)
set_option maxHeartbeats 4000000 in
set_option maxRecDepth 100000 in
theorem lz_forget {p : Program} {l : Launch} {e : Env} {s : State} {m : MethodId} {below : List Frame} {meth : Method} {c : Code} {G : GG} {b L : Nat} {xs : Nat → Int32} (X : LzX p s m meth c G b L xs) {x : Int32} (hin : ∀ j, j ≤ 6 → vp_in (x + nI j) L) {σ : St} (hJ : JJ σ) (kk : ∀ υ, JJ υ → LzW p l e s m below meth c G b 1242 x υ) : LzW p l e s m below meth c G b 1003 x σ := by
  intro H locs ls hR hS hl
  obtain ⟨C, hX, hbl, hbA⟩ := X
  have hx := C.1
  have hb := C.2.1
  obtain ⟨r, τ, υ, hf, hg, hJ⟩ := eq_forget hJ 
  refine lv_aload_n hx hb dL_law_1003 rfl (lv_at hl 1 rfl) ?_
  refine x_cvI C hl.1 hR hS (c_X5_forget l G  σ _ hf) gL_law_X5_forget rfl hdV_X5_forget ⟨Nat.le_of_ble_eq_true rfl, Nat.le_of_ble_eq_true rfl⟩ (by decide) (cz4 rfl) rfl rfl (As := []) (rest := []) rfl (Nat.le_of_ble_eq_true rfl) ⟨Nat.le_of_ble_eq_true rfl, Nat.le_of_ble_eq_true rfl⟩ dL_law_1004 (fun r1 σ1 H locs hq1 hR hS => ?_)
  have hR : Rp G τ H := by rw [hq1.2] at hR; exact hR
  refine lv_aload_n hx hb dL_law_1007 rfl (lv_at hl 2 rfl) ?_
  refine x_cvI C hl.1 hR hS (c_X6_forget l G  τ _ hg) gL_law_X6_forget rfl hdV_X6_forget ⟨Nat.le_of_ble_eq_true rfl, Nat.le_of_ble_eq_true rfl⟩ (by decide) (cz5 rfl) rfl rfl (As := []) (rest := [.int r1]) rfl (Nat.le_of_ble_eq_true rfl) ⟨Nat.le_of_ble_eq_true rfl, Nat.le_of_ble_eq_true rfl⟩ dL_law_1008 (fun r2 σ2 H locs hq2 hR hS => ?_)
  have hR : Rp G υ H := by rw [hq2.2] at hR; exact hR
  exact lv_icmp_eq (tgt := 1242) hx hb dL_law_1011 (by decide) (fun _ => kk υ hJ _ _ _ hR hS hl) (fun h => absurd (hq1.1.trans hq2.1.symm) h)
set_option maxHeartbeats 4000000 in
set_option maxRecDepth 100000 in
theorem lz_leads {p : Program} {l : Launch} {e : Env} {s : State} {m : MethodId} {below : List Frame} {meth : Method} {c : Code} {G : GG} {b L : Nat} {xs : Nat → Int32} (X : LzX p s m meth c G b L xs) {x : Int32} (hin : ∀ j, j ≤ 6 → vp_in (x + nI j) L) {σ : St} (hJ : JJ σ) (kk : ∀ υ, JJ υ → LzW p l e s m below meth c G b 1242 x υ) : LzW p l e s m below meth c G b 1016 x σ := by
  intro H locs ls hR hS hl
  obtain ⟨C, hX, hbl, hbA⟩ := X
  have hx := C.1
  have hb := C.2.1
  obtain ⟨r, τ, υ, hf, hg, hJ⟩ := eq_leads hJ (xs (x + nI 1).toNatClampNeg) (xs (x + nI 2).toNatClampNeg) (xs (x + nI 3).toNatClampNeg)
  refine lv_aload_n hx hb dL_law_1016 rfl (lv_at hl 1 rfl) ?_
  refine lv_aload_n hx hb dL_law_1017 rfl (lv_at hl 0 rfl) ?_
  refine lv_iload_n hx hb dL_law_1018 rfl (lv_at hl 3 rfl) ?_
  refine lv_iconst (v := nI 1) hx hb dL_law_1019 (by decide) ?_
  refine lv_iadd hx hb dL_law_1020 ?_
  refine va_sld hx hb hX hbl hbA hS (hin 1 (by decide)) dL_law_1021 ?_
  refine lv_aload_n hx hb dL_law_1022 rfl (lv_at hl 0 rfl) ?_
  refine lv_iload_n hx hb dL_law_1023 rfl (lv_at hl 3 rfl) ?_
  refine lv_iconst (v := nI 2) hx hb dL_law_1024 (by decide) ?_
  refine lv_iadd hx hb dL_law_1025 ?_
  refine va_sld hx hb hX hbl hbA hS (hin 2 (by decide)) dL_law_1026 ?_
  refine lv_aload_n hx hb dL_law_1027 rfl (lv_at hl 0 rfl) ?_
  refine lv_iload_n hx hb dL_law_1028 rfl (lv_at hl 3 rfl) ?_
  refine lv_iconst (v := nI 3) hx hb dL_law_1029 (by decide) ?_
  refine lv_iadd hx hb dL_law_1030 ?_
  refine va_sld hx hb hX hbl hbA hS (hin 3 (by decide)) dL_law_1031 ?_
  refine x_cvI C hl.1 hR hS (c_X5_leads l G (xs (x + nI 1).toNatClampNeg) (xs (x + nI 2).toNatClampNeg) (xs (x + nI 3).toNatClampNeg) σ _ hf) gL_law_X5_leads rfl hdV_X5_leads ⟨Nat.le_of_ble_eq_true rfl, Nat.le_of_ble_eq_true rfl⟩ (by decide) (cz4 rfl) rfl rfl (As := [.int (xs (x + nI 1).toNatClampNeg), .int (xs (x + nI 2).toNatClampNeg), .int (xs (x + nI 3).toNatClampNeg)]) (rest := []) rfl (Nat.le_of_ble_eq_true rfl) ⟨Nat.le_of_ble_eq_true rfl, Nat.le_of_ble_eq_true rfl⟩ dL_law_1032 (fun r1 σ1 H locs hq1 hR hS => ?_)
  have hR : Rp G τ H := by rw [hq1.2] at hR; exact hR
  refine lv_aload_n hx hb dL_law_1035 rfl (lv_at hl 2 rfl) ?_
  refine lv_aload_n hx hb dL_law_1036 rfl (lv_at hl 0 rfl) ?_
  refine lv_iload_n hx hb dL_law_1037 rfl (lv_at hl 3 rfl) ?_
  refine lv_iconst (v := nI 1) hx hb dL_law_1038 (by decide) ?_
  refine lv_iadd hx hb dL_law_1039 ?_
  refine va_sld hx hb hX hbl hbA hS (hin 1 (by decide)) dL_law_1040 ?_
  refine lv_aload_n hx hb dL_law_1041 rfl (lv_at hl 0 rfl) ?_
  refine lv_iload_n hx hb dL_law_1042 rfl (lv_at hl 3 rfl) ?_
  refine lv_iconst (v := nI 2) hx hb dL_law_1043 (by decide) ?_
  refine lv_iadd hx hb dL_law_1044 ?_
  refine va_sld hx hb hX hbl hbA hS (hin 2 (by decide)) dL_law_1045 ?_
  refine lv_aload_n hx hb dL_law_1046 rfl (lv_at hl 0 rfl) ?_
  refine lv_iload_n hx hb dL_law_1047 rfl (lv_at hl 3 rfl) ?_
  refine lv_iconst (v := nI 3) hx hb dL_law_1048 (by decide) ?_
  refine lv_iadd hx hb dL_law_1049 ?_
  refine va_sld hx hb hX hbl hbA hS (hin 3 (by decide)) dL_law_1050 ?_
  refine x_cvI C hl.1 hR hS (c_X6_leads l G (xs (x + nI 1).toNatClampNeg) (xs (x + nI 2).toNatClampNeg) (xs (x + nI 3).toNatClampNeg) τ _ hg) gL_law_X6_leads rfl hdV_X6_leads ⟨Nat.le_of_ble_eq_true rfl, Nat.le_of_ble_eq_true rfl⟩ (by decide) (cz5 rfl) rfl rfl (As := [.int (xs (x + nI 1).toNatClampNeg), .int (xs (x + nI 2).toNatClampNeg), .int (xs (x + nI 3).toNatClampNeg)]) (rest := [.int r1]) rfl (Nat.le_of_ble_eq_true rfl) ⟨Nat.le_of_ble_eq_true rfl, Nat.le_of_ble_eq_true rfl⟩ dL_law_1051 (fun r2 σ2 H locs hq2 hR hS => ?_)
  have hR : Rp G υ H := by rw [hq2.2] at hR; exact hR
  exact lv_icmp_eq (tgt := 1242) hx hb dL_law_1054 (by decide) (fun _ => kk υ hJ _ _ _ hR hS hl) (fun h => absurd (hq1.1.trans hq2.1.symm) h)
set_option maxHeartbeats 4000000 in
set_option maxRecDepth 100000 in
theorem lz_drawn {p : Program} {l : Launch} {e : Env} {s : State} {m : MethodId} {below : List Frame} {meth : Method} {c : Code} {G : GG} {b L : Nat} {xs : Nat → Int32} (X : LzX p s m meth c G b L xs) {x : Int32} (hin : ∀ j, j ≤ 6 → vp_in (x + nI j) L) {σ : St} (hJ : JJ σ) (kk : ∀ υ, JJ υ → LzW p l e s m below meth c G b 1242 x υ) : LzW p l e s m below meth c G b 1059 x σ := by
  intro H locs ls hR hS hl
  obtain ⟨C, hX, hbl, hbA⟩ := X
  have hx := C.1
  have hb := C.2.1
  obtain ⟨r, τ, υ, hf, hg, hJ⟩ := eq_drawn hJ (xs (x + nI 1).toNatClampNeg) (xs (x + nI 2).toNatClampNeg) (xs (x + nI 3).toNatClampNeg) (xs (x + nI 4).toNatClampNeg)
  refine lv_aload_n hx hb dL_law_1059 rfl (lv_at hl 1 rfl) ?_
  refine lv_aload_n hx hb dL_law_1060 rfl (lv_at hl 0 rfl) ?_
  refine lv_iload_n hx hb dL_law_1061 rfl (lv_at hl 3 rfl) ?_
  refine lv_iconst (v := nI 1) hx hb dL_law_1062 (by decide) ?_
  refine lv_iadd hx hb dL_law_1063 ?_
  refine va_sld hx hb hX hbl hbA hS (hin 1 (by decide)) dL_law_1064 ?_
  refine lv_aload_n hx hb dL_law_1065 rfl (lv_at hl 0 rfl) ?_
  refine lv_iload_n hx hb dL_law_1066 rfl (lv_at hl 3 rfl) ?_
  refine lv_iconst (v := nI 2) hx hb dL_law_1067 (by decide) ?_
  refine lv_iadd hx hb dL_law_1068 ?_
  refine va_sld hx hb hX hbl hbA hS (hin 2 (by decide)) dL_law_1069 ?_
  refine lv_aload_n hx hb dL_law_1070 rfl (lv_at hl 0 rfl) ?_
  refine lv_iload_n hx hb dL_law_1071 rfl (lv_at hl 3 rfl) ?_
  refine lv_iconst (v := nI 3) hx hb dL_law_1072 (by decide) ?_
  refine lv_iadd hx hb dL_law_1073 ?_
  refine va_sld hx hb hX hbl hbA hS (hin 3 (by decide)) dL_law_1074 ?_
  refine lv_aload_n hx hb dL_law_1075 rfl (lv_at hl 0 rfl) ?_
  refine lv_iload_n hx hb dL_law_1076 rfl (lv_at hl 3 rfl) ?_
  refine lv_iconst (v := nI 4) hx hb dL_law_1077 (by decide) ?_
  refine lv_iadd hx hb dL_law_1078 ?_
  refine va_sld hx hb hX hbl hbA hS (hin 4 (by decide)) dL_law_1079 ?_
  refine x_cvI C hl.1 hR hS (c_X5_drawn l G (xs (x + nI 1).toNatClampNeg) (xs (x + nI 2).toNatClampNeg) (xs (x + nI 3).toNatClampNeg) (xs (x + nI 4).toNatClampNeg) σ _ hf) gL_law_X5_drawn rfl hdV_X5_drawn ⟨Nat.le_of_ble_eq_true rfl, Nat.le_of_ble_eq_true rfl⟩ (by decide) (cz4 rfl) rfl rfl (As := [.int (xs (x + nI 1).toNatClampNeg), .int (xs (x + nI 2).toNatClampNeg), .int (xs (x + nI 3).toNatClampNeg), .int (xs (x + nI 4).toNatClampNeg)]) (rest := []) rfl (Nat.le_of_ble_eq_true rfl) ⟨Nat.le_of_ble_eq_true rfl, Nat.le_of_ble_eq_true rfl⟩ dL_law_1080 (fun r1 σ1 H locs hq1 hR hS => ?_)
  have hR : Rp G τ H := by rw [hq1.2] at hR; exact hR
  refine lv_aload_n hx hb dL_law_1083 rfl (lv_at hl 2 rfl) ?_
  refine lv_aload_n hx hb dL_law_1084 rfl (lv_at hl 0 rfl) ?_
  refine lv_iload_n hx hb dL_law_1085 rfl (lv_at hl 3 rfl) ?_
  refine lv_iconst (v := nI 1) hx hb dL_law_1086 (by decide) ?_
  refine lv_iadd hx hb dL_law_1087 ?_
  refine va_sld hx hb hX hbl hbA hS (hin 1 (by decide)) dL_law_1088 ?_
  refine lv_aload_n hx hb dL_law_1089 rfl (lv_at hl 0 rfl) ?_
  refine lv_iload_n hx hb dL_law_1090 rfl (lv_at hl 3 rfl) ?_
  refine lv_iconst (v := nI 2) hx hb dL_law_1091 (by decide) ?_
  refine lv_iadd hx hb dL_law_1092 ?_
  refine va_sld hx hb hX hbl hbA hS (hin 2 (by decide)) dL_law_1093 ?_
  refine lv_aload_n hx hb dL_law_1094 rfl (lv_at hl 0 rfl) ?_
  refine lv_iload_n hx hb dL_law_1095 rfl (lv_at hl 3 rfl) ?_
  refine lv_iconst (v := nI 3) hx hb dL_law_1096 (by decide) ?_
  refine lv_iadd hx hb dL_law_1097 ?_
  refine va_sld hx hb hX hbl hbA hS (hin 3 (by decide)) dL_law_1098 ?_
  refine lv_aload_n hx hb dL_law_1099 rfl (lv_at hl 0 rfl) ?_
  refine lv_iload_n hx hb dL_law_1100 rfl (lv_at hl 3 rfl) ?_
  refine lv_iconst (v := nI 4) hx hb dL_law_1101 (by decide) ?_
  refine lv_iadd hx hb dL_law_1102 ?_
  refine va_sld hx hb hX hbl hbA hS (hin 4 (by decide)) dL_law_1103 ?_
  refine x_cvI C hl.1 hR hS (c_X6_drawn l G (xs (x + nI 1).toNatClampNeg) (xs (x + nI 2).toNatClampNeg) (xs (x + nI 3).toNatClampNeg) (xs (x + nI 4).toNatClampNeg) τ _ hg) gL_law_X6_drawn rfl hdV_X6_drawn ⟨Nat.le_of_ble_eq_true rfl, Nat.le_of_ble_eq_true rfl⟩ (by decide) (cz5 rfl) rfl rfl (As := [.int (xs (x + nI 1).toNatClampNeg), .int (xs (x + nI 2).toNatClampNeg), .int (xs (x + nI 3).toNatClampNeg), .int (xs (x + nI 4).toNatClampNeg)]) (rest := [.int r1]) rfl (Nat.le_of_ble_eq_true rfl) ⟨Nat.le_of_ble_eq_true rfl, Nat.le_of_ble_eq_true rfl⟩ dL_law_1104 (fun r2 σ2 H locs hq2 hR hS => ?_)
  have hR : Rp G υ H := by rw [hq2.2] at hR; exact hR
  exact lv_icmp_eq (tgt := 1242) hx hb dL_law_1107 (by decide) (fun _ => kk υ hJ _ _ _ hR hS hl) (fun h => absurd (hq1.1.trans hq2.1.symm) h)
set_option maxHeartbeats 4000000 in
set_option maxRecDepth 100000 in
theorem lz_part {p : Program} {l : Launch} {e : Env} {s : State} {m : MethodId} {below : List Frame} {meth : Method} {c : Code} {G : GG} {b L : Nat} {xs : Nat → Int32} (X : LzX p s m meth c G b L xs) {x : Int32} (hin : ∀ j, j ≤ 6 → vp_in (x + nI j) L) {σ : St} (hJ : JJ σ) (kk : ∀ υ, JJ υ → LzW p l e s m below meth c G b 1242 x υ) : LzW p l e s m below meth c G b 1112 x σ := by
  intro H locs ls hR hS hl
  obtain ⟨C, hX, hbl, hbA⟩ := X
  have hx := C.1
  have hb := C.2.1
  obtain ⟨r, τ, υ, hf, hg, hJ⟩ := eq_part hJ (xs (x + nI 1).toNatClampNeg)
  refine lv_aload_n hx hb dL_law_1112 rfl (lv_at hl 1 rfl) ?_
  refine lv_aload_n hx hb dL_law_1113 rfl (lv_at hl 0 rfl) ?_
  refine lv_iload_n hx hb dL_law_1114 rfl (lv_at hl 3 rfl) ?_
  refine lv_iconst (v := nI 1) hx hb dL_law_1115 (by decide) ?_
  refine lv_iadd hx hb dL_law_1116 ?_
  refine va_sld hx hb hX hbl hbA hS (hin 1 (by decide)) dL_law_1117 ?_
  refine x_cvL C hl.1 hR hS (c_X5_part l G (xs (x + nI 1).toNatClampNeg) σ _ hf) gL_law_X5_part rfl hdV_X5_part ⟨Nat.le_of_ble_eq_true rfl, Nat.le_of_ble_eq_true rfl⟩ (by decide) (cz4 rfl) rfl rfl (As := [.int (xs (x + nI 1).toNatClampNeg)]) (rest := []) rfl (Nat.le_of_ble_eq_true rfl) ⟨Nat.le_of_ble_eq_true rfl, Nat.le_of_ble_eq_true rfl⟩ dL_law_1118 (fun r1 σ1 H locs hq1 hR hS => ?_)
  have hR : Rp G τ H := by rw [hq1.2] at hR; exact hR
  refine lv_aload_n hx hb dL_law_1121 rfl (lv_at hl 2 rfl) ?_
  refine lv_aload_n hx hb dL_law_1122 rfl (lv_at hl 0 rfl) ?_
  refine lv_iload_n hx hb dL_law_1123 rfl (lv_at hl 3 rfl) ?_
  refine lv_iconst (v := nI 1) hx hb dL_law_1124 (by decide) ?_
  refine lv_iadd hx hb dL_law_1125 ?_
  refine va_sld hx hb hX hbl hbA hS (hin 1 (by decide)) dL_law_1126 ?_
  refine x_cvL C hl.1 hR hS (c_X6_part l G (xs (x + nI 1).toNatClampNeg) τ _ hg) gL_law_X6_part rfl hdV_X6_part ⟨Nat.le_of_ble_eq_true rfl, Nat.le_of_ble_eq_true rfl⟩ (by decide) (cz5 rfl) rfl rfl (As := [.int (xs (x + nI 1).toNatClampNeg)]) (rest := [.long r1]) rfl (Nat.le_of_ble_eq_true rfl) ⟨Nat.le_of_ble_eq_true rfl, Nat.le_of_ble_eq_true rfl⟩ dL_law_1127 (fun r2 σ2 H locs hq2 hR hS => ?_)
  have hR : Rp G υ H := by rw [hq2.2] at hR; exact hR
  refine W.lcmp hx hb dL_law_1130 ?_
  exact lv_if_eq (tgt := 1242) hx hb dL_law_1131 (by decide) (fun _ => kk υ hJ _ _ _ hR hS hl) (fun h => absurd ((lg_cmp_eq _ _).mpr (hq1.1.trans hq2.1.symm)) h)
set_option maxHeartbeats 4000000 in
set_option maxRecDepth 100000 in
theorem lz_image {p : Program} {l : Launch} {e : Env} {s : State} {m : MethodId} {below : List Frame} {meth : Method} {c : Code} {G : GG} {b L : Nat} {xs : Nat → Int32} (X : LzX p s m meth c G b L xs) {x : Int32} (hin : ∀ j, j ≤ 6 → vp_in (x + nI j) L) {σ : St} (hJ : JJ σ) (kk : ∀ υ, JJ υ → LzW p l e s m below meth c G b 1242 x υ) : LzW p l e s m below meth c G b 1136 x σ := by
  intro H locs ls hR hS hl
  obtain ⟨C, hX, hbl, hbA⟩ := X
  have hx := C.1
  have hb := C.2.1
  obtain ⟨r, τ, υ, hf, hg, hJ⟩ := eq_image hJ (xs (x + nI 1).toNatClampNeg)
  refine lv_aload_n hx hb dL_law_1136 rfl (lv_at hl 1 rfl) ?_
  refine lv_aload_n hx hb dL_law_1137 rfl (lv_at hl 0 rfl) ?_
  refine lv_iload_n hx hb dL_law_1138 rfl (lv_at hl 3 rfl) ?_
  refine lv_iconst (v := nI 1) hx hb dL_law_1139 (by decide) ?_
  refine lv_iadd hx hb dL_law_1140 ?_
  refine va_sld hx hb hX hbl hbA hS (hin 1 (by decide)) dL_law_1141 ?_
  refine x_cvI C hl.1 hR hS (c_X5_image l G (xs (x + nI 1).toNatClampNeg) σ _ hf) gL_law_X5_image rfl hdV_X5_image ⟨Nat.le_of_ble_eq_true rfl, Nat.le_of_ble_eq_true rfl⟩ (by decide) (cz4 rfl) rfl rfl (As := [.int (xs (x + nI 1).toNatClampNeg)]) (rest := []) rfl (Nat.le_of_ble_eq_true rfl) ⟨Nat.le_of_ble_eq_true rfl, Nat.le_of_ble_eq_true rfl⟩ dL_law_1142 (fun r1 σ1 H locs hq1 hR hS => ?_)
  have hR : Rp G τ H := by rw [hq1.2] at hR; exact hR
  refine lv_aload_n hx hb dL_law_1145 rfl (lv_at hl 2 rfl) ?_
  refine lv_aload_n hx hb dL_law_1146 rfl (lv_at hl 0 rfl) ?_
  refine lv_iload_n hx hb dL_law_1147 rfl (lv_at hl 3 rfl) ?_
  refine lv_iconst (v := nI 1) hx hb dL_law_1148 (by decide) ?_
  refine lv_iadd hx hb dL_law_1149 ?_
  refine va_sld hx hb hX hbl hbA hS (hin 1 (by decide)) dL_law_1150 ?_
  refine x_cvI C hl.1 hR hS (c_X6_image l G (xs (x + nI 1).toNatClampNeg) τ _ hg) gL_law_X6_image rfl hdV_X6_image ⟨Nat.le_of_ble_eq_true rfl, Nat.le_of_ble_eq_true rfl⟩ (by decide) (cz5 rfl) rfl rfl (As := [.int (xs (x + nI 1).toNatClampNeg)]) (rest := [.int r1]) rfl (Nat.le_of_ble_eq_true rfl) ⟨Nat.le_of_ble_eq_true rfl, Nat.le_of_ble_eq_true rfl⟩ dL_law_1151 (fun r2 σ2 H locs hq2 hR hS => ?_)
  have hR : Rp G υ H := by rw [hq2.2] at hR; exact hR
  exact lv_icmp_eq (tgt := 1242) hx hb dL_law_1154 (by decide) (fun _ => kk υ hJ _ _ _ hR hS hl) (fun h => absurd (hq1.1.trans hq2.1.symm) h)
set_option maxHeartbeats 4000000 in
set_option maxRecDepth 100000 in
theorem lz_from {p : Program} {l : Launch} {e : Env} {s : State} {m : MethodId} {below : List Frame} {meth : Method} {c : Code} {G : GG} {b L : Nat} {xs : Nat → Int32} (X : LzX p s m meth c G b L xs) {x : Int32} (hin : ∀ j, j ≤ 6 → vp_in (x + nI j) L) {σ : St} (hJ : JJ σ) (kk : ∀ υ, JJ υ → LzW p l e s m below meth c G b 1242 x υ) : LzW p l e s m below meth c G b 1159 x σ := by
  intro H locs ls hR hS hl
  obtain ⟨C, hX, hbl, hbA⟩ := X
  have hx := C.1
  have hb := C.2.1
  obtain ⟨r, τ, υ, hf, hg, hJ⟩ := eq_from hJ (xs (x + nI 1).toNatClampNeg)
  refine lv_aload_n hx hb dL_law_1159 rfl (lv_at hl 1 rfl) ?_
  refine lv_aload_n hx hb dL_law_1160 rfl (lv_at hl 0 rfl) ?_
  refine lv_iload_n hx hb dL_law_1161 rfl (lv_at hl 3 rfl) ?_
  refine lv_iconst (v := nI 1) hx hb dL_law_1162 (by decide) ?_
  refine lv_iadd hx hb dL_law_1163 ?_
  refine va_sld hx hb hX hbl hbA hS (hin 1 (by decide)) dL_law_1164 ?_
  refine x_cvI C hl.1 hR hS (c_X5_from l G (xs (x + nI 1).toNatClampNeg) σ _ hf) gL_law_X5_from rfl hdV_X5_from ⟨Nat.le_of_ble_eq_true rfl, Nat.le_of_ble_eq_true rfl⟩ (by decide) (cz4 rfl) rfl rfl (As := [.int (xs (x + nI 1).toNatClampNeg)]) (rest := []) rfl (Nat.le_of_ble_eq_true rfl) ⟨Nat.le_of_ble_eq_true rfl, Nat.le_of_ble_eq_true rfl⟩ dL_law_1165 (fun r1 σ1 H locs hq1 hR hS => ?_)
  have hR : Rp G τ H := by rw [hq1.2] at hR; exact hR
  refine lv_aload_n hx hb dL_law_1168 rfl (lv_at hl 2 rfl) ?_
  refine lv_aload_n hx hb dL_law_1169 rfl (lv_at hl 0 rfl) ?_
  refine lv_iload_n hx hb dL_law_1170 rfl (lv_at hl 3 rfl) ?_
  refine lv_iconst (v := nI 1) hx hb dL_law_1171 (by decide) ?_
  refine lv_iadd hx hb dL_law_1172 ?_
  refine va_sld hx hb hX hbl hbA hS (hin 1 (by decide)) dL_law_1173 ?_
  refine x_cvI C hl.1 hR hS (c_X6_from l G (xs (x + nI 1).toNatClampNeg) τ _ hg) gL_law_X6_from rfl hdV_X6_from ⟨Nat.le_of_ble_eq_true rfl, Nat.le_of_ble_eq_true rfl⟩ (by decide) (cz5 rfl) rfl rfl (As := [.int (xs (x + nI 1).toNatClampNeg)]) (rest := [.int r1]) rfl (Nat.le_of_ble_eq_true rfl) ⟨Nat.le_of_ble_eq_true rfl, Nat.le_of_ble_eq_true rfl⟩ dL_law_1174 (fun r2 σ2 H locs hq2 hR hS => ?_)
  have hR : Rp G υ H := by rw [hq2.2] at hR; exact hR
  exact lv_icmp_eq (tgt := 1242) hx hb dL_law_1177 (by decide) (fun _ => kk υ hJ _ _ _ hR hS hl) (fun h => absurd (hq1.1.trans hq2.1.symm) h)
set_option maxHeartbeats 4000000 in
set_option maxRecDepth 100000 in
theorem lz_status {p : Program} {l : Launch} {e : Env} {s : State} {m : MethodId} {below : List Frame} {meth : Method} {c : Code} {G : GG} {b L : Nat} {xs : Nat → Int32} (X : LzX p s m meth c G b L xs) {x : Int32} (hin : ∀ j, j ≤ 6 → vp_in (x + nI j) L) {σ : St} (hJ : JJ σ) (kk : ∀ υ, JJ υ → LzW p l e s m below meth c G b 1242 x υ) : LzW p l e s m below meth c G b 1182 x σ := by
  intro H locs ls hR hS hl
  obtain ⟨C, hX, hbl, hbA⟩ := X
  have hx := C.1
  have hb := C.2.1
  obtain ⟨r, τ, υ, hf, hg, hJ⟩ := eq_status hJ (xs (x + nI 1).toNatClampNeg)
  refine lv_aload_n hx hb dL_law_1182 rfl (lv_at hl 1 rfl) ?_
  refine lv_aload_n hx hb dL_law_1183 rfl (lv_at hl 0 rfl) ?_
  refine lv_iload_n hx hb dL_law_1184 rfl (lv_at hl 3 rfl) ?_
  refine lv_iconst (v := nI 1) hx hb dL_law_1185 (by decide) ?_
  refine lv_iadd hx hb dL_law_1186 ?_
  refine va_sld hx hb hX hbl hbA hS (hin 1 (by decide)) dL_law_1187 ?_
  refine x_cvI C hl.1 hR hS (c_X5_status l G (xs (x + nI 1).toNatClampNeg) σ _ hf) gL_law_X5_status rfl hdV_X5_status ⟨Nat.le_of_ble_eq_true rfl, Nat.le_of_ble_eq_true rfl⟩ (by decide) (cz4 rfl) rfl rfl (As := [.int (xs (x + nI 1).toNatClampNeg)]) (rest := []) rfl (Nat.le_of_ble_eq_true rfl) ⟨Nat.le_of_ble_eq_true rfl, Nat.le_of_ble_eq_true rfl⟩ dL_law_1188 (fun r1 σ1 H locs hq1 hR hS => ?_)
  have hR : Rp G τ H := by rw [hq1.2] at hR; exact hR
  refine lv_aload_n hx hb dL_law_1191 rfl (lv_at hl 2 rfl) ?_
  refine lv_aload_n hx hb dL_law_1192 rfl (lv_at hl 0 rfl) ?_
  refine lv_iload_n hx hb dL_law_1193 rfl (lv_at hl 3 rfl) ?_
  refine lv_iconst (v := nI 1) hx hb dL_law_1194 (by decide) ?_
  refine lv_iadd hx hb dL_law_1195 ?_
  refine va_sld hx hb hX hbl hbA hS (hin 1 (by decide)) dL_law_1196 ?_
  refine x_cvI C hl.1 hR hS (c_X6_status l G (xs (x + nI 1).toNatClampNeg) τ _ hg) gL_law_X6_status rfl hdV_X6_status ⟨Nat.le_of_ble_eq_true rfl, Nat.le_of_ble_eq_true rfl⟩ (by decide) (cz5 rfl) rfl rfl (As := [.int (xs (x + nI 1).toNatClampNeg)]) (rest := [.int r1]) rfl (Nat.le_of_ble_eq_true rfl) ⟨Nat.le_of_ble_eq_true rfl, Nat.le_of_ble_eq_true rfl⟩ dL_law_1197 (fun r2 σ2 H locs hq2 hR hS => ?_)
  have hR : Rp G υ H := by rw [hq2.2] at hR; exact hR
  exact lv_icmp_eq (tgt := 1242) hx hb dL_law_1200 (by decide) (fun _ => kk υ hJ _ _ _ hR hS hl) (fun h => absurd (hq1.1.trans hq2.1.symm) h)
set_option maxHeartbeats 4000000 in
set_option maxRecDepth 100000 in
theorem lz_count {p : Program} {l : Launch} {e : Env} {s : State} {m : MethodId} {below : List Frame} {meth : Method} {c : Code} {G : GG} {b L : Nat} {xs : Nat → Int32} (X : LzX p s m meth c G b L xs) {x : Int32} (hin : ∀ j, j ≤ 6 → vp_in (x + nI j) L) {σ : St} (hJ : JJ σ) (kk : ∀ υ, JJ υ → LzW p l e s m below meth c G b 1242 x υ) : LzW p l e s m below meth c G b 1205 x σ := by
  intro H locs ls hR hS hl
  obtain ⟨C, hX, hbl, hbA⟩ := X
  have hx := C.1
  have hb := C.2.1
  obtain ⟨r, τ, υ, hf, hg, hJ⟩ := eq_count hJ (xs (x + nI 1).toNatClampNeg)
  refine lv_aload_n hx hb dL_law_1205 rfl (lv_at hl 1 rfl) ?_
  refine lv_aload_n hx hb dL_law_1206 rfl (lv_at hl 0 rfl) ?_
  refine lv_iload_n hx hb dL_law_1207 rfl (lv_at hl 3 rfl) ?_
  refine lv_iconst (v := nI 1) hx hb dL_law_1208 (by decide) ?_
  refine lv_iadd hx hb dL_law_1209 ?_
  refine va_sld hx hb hX hbl hbA hS (hin 1 (by decide)) dL_law_1210 ?_
  refine x_cvI C hl.1 hR hS (c_X5_count l G (xs (x + nI 1).toNatClampNeg) σ _ hf) gL_law_X5_count rfl hdV_X5_count ⟨Nat.le_of_ble_eq_true rfl, Nat.le_of_ble_eq_true rfl⟩ (by decide) (cz4 rfl) rfl rfl (As := [.int (xs (x + nI 1).toNatClampNeg)]) (rest := []) rfl (Nat.le_of_ble_eq_true rfl) ⟨Nat.le_of_ble_eq_true rfl, Nat.le_of_ble_eq_true rfl⟩ dL_law_1211 (fun r1 σ1 H locs hq1 hR hS => ?_)
  have hR : Rp G τ H := by rw [hq1.2] at hR; exact hR
  refine lv_aload_n hx hb dL_law_1214 rfl (lv_at hl 2 rfl) ?_
  refine lv_aload_n hx hb dL_law_1215 rfl (lv_at hl 0 rfl) ?_
  refine lv_iload_n hx hb dL_law_1216 rfl (lv_at hl 3 rfl) ?_
  refine lv_iconst (v := nI 1) hx hb dL_law_1217 (by decide) ?_
  refine lv_iadd hx hb dL_law_1218 ?_
  refine va_sld hx hb hX hbl hbA hS (hin 1 (by decide)) dL_law_1219 ?_
  refine x_cvI C hl.1 hR hS (c_X6_count l G (xs (x + nI 1).toNatClampNeg) τ _ hg) gL_law_X6_count rfl hdV_X6_count ⟨Nat.le_of_ble_eq_true rfl, Nat.le_of_ble_eq_true rfl⟩ (by decide) (cz5 rfl) rfl rfl (As := [.int (xs (x + nI 1).toNatClampNeg)]) (rest := [.int r1]) rfl (Nat.le_of_ble_eq_true rfl) ⟨Nat.le_of_ble_eq_true rfl, Nat.le_of_ble_eq_true rfl⟩ dL_law_1220 (fun r2 σ2 H locs hq2 hR hS => ?_)
  have hR : Rp G υ H := by rw [hq2.2] at hR; exact hR
  exact lv_icmp_eq (tgt := 1242) hx hb dL_law_1223 (by decide) (fun _ => kk υ hJ _ _ _ hR hS hl) (fun h => absurd (hq1.1.trans hq2.1.symm) h)
set_option maxHeartbeats 4000000 in
set_option maxRecDepth 100000 in
theorem lz_digest {p : Program} {l : Launch} {e : Env} {s : State} {m : MethodId} {below : List Frame} {meth : Method} {c : Code} {G : GG} {b L : Nat} {xs : Nat → Int32} (X : LzX p s m meth c G b L xs) {x : Int32} (hin : ∀ j, j ≤ 6 → vp_in (x + nI j) L) {σ : St} (hJ : JJ σ) (kk : ∀ υ, JJ υ → LzW p l e s m below meth c G b 1242 x υ) : LzW p l e s m below meth c G b 1228 x σ := by
  intro H locs ls hR hS hl
  obtain ⟨C, hX, hbl, hbA⟩ := X
  have hx := C.1
  have hb := C.2.1
  obtain ⟨r, τ, υ, hf, hg, hJ⟩ := eq_digest hJ 
  refine lv_aload_n hx hb dL_law_1228 rfl (lv_at hl 1 rfl) ?_
  refine x_cvL C hl.1 hR hS (c_X5_digest l G  σ _ hf) gL_law_X5_digest rfl hdV_X5_digest ⟨Nat.le_of_ble_eq_true rfl, Nat.le_of_ble_eq_true rfl⟩ (by decide) (cz4 rfl) rfl rfl (As := []) (rest := []) rfl (Nat.le_of_ble_eq_true rfl) ⟨Nat.le_of_ble_eq_true rfl, Nat.le_of_ble_eq_true rfl⟩ dL_law_1229 (fun r1 σ1 H locs hq1 hR hS => ?_)
  have hR : Rp G τ H := by rw [hq1.2] at hR; exact hR
  refine lv_aload_n hx hb dL_law_1232 rfl (lv_at hl 2 rfl) ?_
  refine x_cvL C hl.1 hR hS (c_X6_digest l G  τ _ hg) gL_law_X6_digest rfl hdV_X6_digest ⟨Nat.le_of_ble_eq_true rfl, Nat.le_of_ble_eq_true rfl⟩ (by decide) (cz5 rfl) rfl rfl (As := []) (rest := [.long r1]) rfl (Nat.le_of_ble_eq_true rfl) ⟨Nat.le_of_ble_eq_true rfl, Nat.le_of_ble_eq_true rfl⟩ dL_law_1233 (fun r2 σ2 H locs hq2 hR hS => ?_)
  have hR : Rp G υ H := by rw [hq2.2] at hR; exact hR
  refine W.lcmp hx hb dL_law_1236 ?_
  exact lv_if_eq (tgt := 1242) hx hb dL_law_1237 (by decide) (fun _ => kk υ hJ _ _ _ hR hS hl) (fun h => absurd ((lg_cmp_eq _ _).mpr (hq1.1.trans hq2.1.symm)) h)
