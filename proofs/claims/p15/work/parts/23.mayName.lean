/-- whether c and d may be named where kind K stands behind x3 of them -/
abbrev mayP (K : Nat) (x1 x2 x3 : Int32) : Prop := ((1 ≤ (nmT K).toInt → 0 ≤ x1.toInt ∧ x1.toInt < x3.toInt) ∧ (¬ 1 ≤ (nmT K).toInt → x1.toInt = 0)) ∧ ((nmT K).toInt = 2 → 0 ≤ x2.toInt ∧ x2.toInt < x3.toInt) ∧ (¬ (nmT K).toInt = 2 → x2.toInt = 0)
theorem dX7_mayName_0 : decode cX7_mayName 0 = .ok (.aload_n 0, 1) := by decide +kernel
theorem dX7_mayName_1 : decode cX7_mayName 1 = .ok (.getfield 70, 3) := by decide +kernel
theorem dX7_mayName_10 : decode cX7_mayName 10 = .ok (.iload_n 3, 1) := by decide +kernel
theorem dX7_mayName_11 : decode cX7_mayName 11 = .ok (.iconst 1, 1) := by decide +kernel
theorem dX7_mayName_12 : decode cX7_mayName 12 = .ok (.isub, 1) := by decide +kernel
theorem dX7_mayName_13 : decode cX7_mayName 13 = .ok (.invokestatic 79, 3) := by decide +kernel
theorem dX7_mayName_16 : decode cX7_mayName 16 = .ok (.goto 12, 3) := by decide +kernel
theorem dX7_mayName_19 : decode cX7_mayName 19 = .ok (.iload_n 1, 1) := by decide +kernel
theorem dX7_mayName_20 : decode cX7_mayName 20 = .ok (.ifCond .ne 7, 3) := by decide +kernel
theorem dX7_mayName_23 : decode cX7_mayName 23 = .ok (.iconst 1, 1) := by decide +kernel
theorem dX7_mayName_24 : decode cX7_mayName 24 = .ok (.goto 4, 3) := by decide +kernel
theorem dX7_mayName_27 : decode cX7_mayName 27 = .ok (.iconst 0, 1) := by decide +kernel
theorem dX7_mayName_28 : decode cX7_mayName 28 = .ok (.istore 4, 2) := by decide +kernel
theorem dX7_mayName_30 : decode cX7_mayName 30 = .ok (.aload_n 0, 1) := by decide +kernel
theorem dX7_mayName_31 : decode cX7_mayName 31 = .ok (.getfield 70, 3) := by decide +kernel
theorem dX7_mayName_34 : decode cX7_mayName 34 = .ok (.iconst 2, 1) := by decide +kernel
theorem dX7_mayName_35 : decode cX7_mayName 35 = .ok (.if_icmp .ne 14, 3) := by decide +kernel
theorem dX7_mayName_38 : decode cX7_mayName 38 = .ok (.iload_n 2, 1) := by decide +kernel
theorem dX7_mayName_39 : decode cX7_mayName 39 = .ok (.iconst 0, 1) := by decide +kernel
theorem dX7_mayName_4 : decode cX7_mayName 4 = .ok (.iconst 1, 1) := by decide +kernel
theorem dX7_mayName_40 : decode cX7_mayName 40 = .ok (.iload_n 3, 1) := by decide +kernel
theorem dX7_mayName_41 : decode cX7_mayName 41 = .ok (.iconst 1, 1) := by decide +kernel
theorem dX7_mayName_42 : decode cX7_mayName 42 = .ok (.isub, 1) := by decide +kernel
theorem dX7_mayName_43 : decode cX7_mayName 43 = .ok (.invokestatic 79, 3) := by decide +kernel
theorem dX7_mayName_46 : decode cX7_mayName 46 = .ok (.goto 12, 3) := by decide +kernel
theorem dX7_mayName_49 : decode cX7_mayName 49 = .ok (.iload_n 2, 1) := by decide +kernel
theorem dX7_mayName_5 : decode cX7_mayName 5 = .ok (.if_icmp .lt 14, 3) := by decide +kernel
theorem dX7_mayName_50 : decode cX7_mayName 50 = .ok (.ifCond .ne 7, 3) := by decide +kernel
theorem dX7_mayName_53 : decode cX7_mayName 53 = .ok (.iconst 1, 1) := by decide +kernel
theorem dX7_mayName_54 : decode cX7_mayName 54 = .ok (.goto 4, 3) := by decide +kernel
theorem dX7_mayName_57 : decode cX7_mayName 57 = .ok (.iconst 0, 1) := by decide +kernel
theorem dX7_mayName_58 : decode cX7_mayName 58 = .ok (.istore 5, 2) := by decide +kernel
theorem dX7_mayName_60 : decode cX7_mayName 60 = .ok (.iload 4, 2) := by decide +kernel
theorem dX7_mayName_62 : decode cX7_mayName 62 = .ok (.ifCond .eq 12, 3) := by decide +kernel
theorem dX7_mayName_65 : decode cX7_mayName 65 = .ok (.iload 5, 2) := by decide +kernel
theorem dX7_mayName_67 : decode cX7_mayName 67 = .ok (.ifCond .eq 7, 3) := by decide +kernel
theorem dX7_mayName_70 : decode cX7_mayName 70 = .ok (.iconst 1, 1) := by decide +kernel
theorem dX7_mayName_71 : decode cX7_mayName 71 = .ok (.goto 4, 3) := by decide +kernel
theorem dX7_mayName_74 : decode cX7_mayName 74 = .ok (.iconst 0, 1) := by decide +kernel
theorem dX7_mayName_75 : decode cX7_mayName 75 = .ok (.ireturn, 1) := by decide +kernel
theorem dX7_mayName_8 : decode cX7_mayName 8 = .ok (.iload_n 1, 1) := by decide +kernel
theorem dX7_mayName_9 : decode cX7_mayName 9 = .ok (.iconst 0, 1) := by decide +kernel
set_option maxRecDepth 20000 in
theorem ggX7_mayName_X12_within : GoodIn wsX7_mayName wsX12_within := goodIn_r _ [4] rfl (by decide +kernel)
set_option maxRecDepth 20000 in
theorem gX7_mayName_X12_within_n79 : GoodIn wsX7_mayName (wsX12_within) := ggX7_mayName_X12_within
set_option maxHeartbeats 4000000 in
set_option maxRecDepth 100000 in
theorem c_X7_mayName (l : Launch) (D : va_G) (T : Nat → ClassId) (ad sa av : Nat → Nat) (ta : Nat) (K : Nat) (x1 : Int32) (x2 : Int32) (x3 : Int32) (hi9 : K < 13) (h3 : -100 ≤ x3.toInt) : Met l yX7_mayName wsX7_mayName ({ frames := 1, cells := 0, slots := 0, locals := 22 }) (pRk [.ref (ad K), .int x1, .int x2, .int x3] D T [] ad sa av ta) (vp_Si (fun r => r = if ((1 ≤ (nmT K).toInt → 0 ≤ x1.toInt ∧ x1.toInt < x3.toInt) ∧ (¬ 1 ≤ (nmT K).toInt → x1.toInt = 0)) ∧ ((nmT K).toInt = 2 → 0 ≤ x2.toInt ∧ x2.toInt < x3.toInt) ∧ (¬ (nmT K).toInt = 2 → x2.toInt = 0) then 1 else 0)) 0 0 (fun _ => False) := by
  refine Met.ofW (cc := cX7_mayName) (maxL := 6) (ret := (some .boolean)) (by decide +kernel) rfl ?_
  intro p e s m args below meth c s₁ B hml hv
  obtain ⟨rfl, hP, hE, hV⟩ := hv
  have hS : va_S (fun _ => False) s.heap s.heap [] := va_S.rf
  have hx := B.exec
  have hb := B.bytes
  have hr := B.returns
  have hts := atoms_spec (ws := wsX7_mayName) B.pre
  have hown : s.vm.findClass RX7 = some m.cls := findClass_of_methodNamed B.named
  have hlocks := B.notSynchronized
  have hP : va_P D vwCl [] s.heap := hP
  have hl := lv_entry ([.ref (ad K), .int x1, .int x2, .int x3]) (n := 6) (Nat.le_of_ble_eq_true rfl)
  rw [lg_entry_eq]
  generalize (lg_sl ([.ref (ad K), .int x1, .int x2, .int x3]) ++ List.replicate (6 - (lg_sl ([.ref (ad K), .int x1, .int x2, .int x3])).length) Slot.unset).toArray = ls at hl ⊢
  have hl : lv_has ls 6 [(0, .ref (ad K)), (1, .int x1), (2, .int x2), (3, .int x3)] := hl
  have hnmK := nmT_in K
  have hd3 := dec1 h3
  refine lv_aload_n hx hb dX7_mayName_0 rfl (lv_at hl 0 rfl) ?_
  refine va_getE (i := K) hx hb hV.1.1 hi9 hS hown (q := kdQ "names" [0, 0, 1, 1, 1, 2, 2, 2, 1, 2, 1, 1, 2]) (List.mem_of_getElem? (i := 0) rfl) (hts (.fieldLink RX7 70 "ClauseBook$Kind" "names" "I") (List.mem_of_getElem? (i := 1) rfl)) (fun _ h9 => h9) dX7_mayName_1 ?_
  refine W.eq (g2 := F0 m 4 ls [.int (nmT K)]) rfl ?_
  refine lv_iconst (v := 1) hx hb dX7_mayName_4 (by decide +kernel) ?_
  refine lv_icmp_lt (tgt := 19) hx hb dX7_mayName_5 (by decide +kernel) (fun c_1 => ?_) (fun c_1 => ?_)
  · rw [fa_lt] at c_1
    try rw [ti_1] at c_1
    refine lv_iload_n hx hb dX7_mayName_19 rfl (lv_at hl 1 rfl) ?_
    refine lv_if_ne (tgt := 27) hx hb dX7_mayName_20 (by decide +kernel) (fun c_2 => ?_) (fun c_2 => ?_)
    · rw [fa_eq] at c_2
      try rw [ti_0] at c_2
      refine lv_iconst (v := 0) hx hb dX7_mayName_27 (by decide +kernel) ?_
      refine lv_istore (lv' := [(4, .int 0), (0, .ref (ad K)), (1, .int x1), (2, .int x2), (3, .int x3)]) hx hb dX7_mayName_28 hl (by decide +kernel) rfl (fun ls hl => ?_)
      refine lv_aload_n hx hb dX7_mayName_30 rfl (lv_at hl 1 rfl) ?_
      refine va_getE (i := K) hx hb hV.1.1 hi9 hS hown (q := kdQ "names" [0, 0, 1, 1, 1, 2, 2, 2, 1, 2, 1, 1, 2]) (List.mem_of_getElem? (i := 0) rfl) (hts (.fieldLink RX7 70 "ClauseBook$Kind" "names" "I") (List.mem_of_getElem? (i := 1) rfl)) (fun _ h9 => h9) dX7_mayName_31 ?_
      refine W.eq (g2 := F0 m 34 ls [.int (nmT K)]) rfl ?_
      refine lv_iconst (v := 2) hx hb dX7_mayName_34 (by decide +kernel) ?_
      refine lv_icmp_ne (tgt := 49) hx hb dX7_mayName_35 (by decide +kernel) (fun c_3 => ?_) (fun c_3 => ?_)
      · rw [fa_eq] at c_3
        try rw [ti_2] at c_3
        refine lv_iload_n hx hb dX7_mayName_49 rfl (lv_at hl 3 rfl) ?_
        refine lv_if_ne (tgt := 57) hx hb dX7_mayName_50 (by decide +kernel) (fun c_4 => ?_) (fun c_4 => ?_)
        · rw [fa_eq] at c_4
          try rw [ti_0] at c_4
          refine lv_iconst (v := 0) hx hb dX7_mayName_57 (by decide +kernel) ?_
          refine lv_istore (lv' := [(5, .int 0), (4, .int 0), (0, .ref (ad K)), (1, .int x1), (2, .int x2), (3, .int x3)]) hx hb dX7_mayName_58 hl (by decide +kernel) rfl (fun ls hl => ?_)
          refine lv_iload hx hb dX7_mayName_60 (lv_at hl 1 rfl) ?_
          refine lv_if_eq (tgt := 74) hx hb dX7_mayName_62 (by decide +kernel) (fun _ => ?_) (fun c9 => absurd c9 (by decide +kernel))
          refine lv_iconst (v := 0) hx hb dX7_mayName_74 (by decide +kernel) ?_
          exact W.zret hx hb hr rfl (fun t ht hW => ⟨_, rfl, (by exact (if_neg (fun ⟨⟨hM1, hM2⟩, hM3, hM4⟩ => by first | (have h9 := hM2 (by clear hM1 hM2 hM3 hM4; omega); clear hM1 hM2 hM3 hM4; omega) | (have h9 := hM4 (by clear hM1 hM2 hM3 hM4; omega); clear hM1 hM2 hM3 hM4; omega) | (have h9 := hM1 (by clear hM1 hM2 hM3 hM4; omega); clear hM1 hM2 hM3 hM4; omega) | (have h9 := hM3 (by clear hM1 hM2 hM3 hM4; omega); clear hM1 hM2 hM3 hM4; omega))).symm), ht⟩) (fun _ h => by cases h) dX7_mayName_75
        · rw [fa_eq] at c_4
          try rw [ti_0] at c_4
          refine lv_iconst (v := 1) hx hb dX7_mayName_53 (by decide +kernel) ?_
          refine lv_goto (tgt := 58) hx hb dX7_mayName_54 (by decide +kernel) ?_
          refine lv_istore (lv' := [(5, .int 1), (4, .int 0), (0, .ref (ad K)), (1, .int x1), (2, .int x2), (3, .int x3)]) hx hb dX7_mayName_58 hl (by decide +kernel) rfl (fun ls hl => ?_)
          refine lv_iload hx hb dX7_mayName_60 (lv_at hl 1 rfl) ?_
          refine lv_if_eq (tgt := 74) hx hb dX7_mayName_62 (by decide +kernel) (fun _ => ?_) (fun c9 => absurd c9 (by decide +kernel))
          refine lv_iconst (v := 0) hx hb dX7_mayName_74 (by decide +kernel) ?_
          exact W.zret hx hb hr rfl (fun t ht hW => ⟨_, rfl, (by exact (if_neg (fun ⟨⟨hM1, hM2⟩, hM3, hM4⟩ => by first | (have h9 := hM2 (by clear hM1 hM2 hM3 hM4; omega); clear hM1 hM2 hM3 hM4; omega) | (have h9 := hM4 (by clear hM1 hM2 hM3 hM4; omega); clear hM1 hM2 hM3 hM4; omega) | (have h9 := hM1 (by clear hM1 hM2 hM3 hM4; omega); clear hM1 hM2 hM3 hM4; omega) | (have h9 := hM3 (by clear hM1 hM2 hM3 hM4; omega); clear hM1 hM2 hM3 hM4; omega))).symm), ht⟩) (fun _ h => by cases h) dX7_mayName_75
      · rw [fa_eq] at c_3
        try rw [ti_2] at c_3
        refine lv_iload_n hx hb dX7_mayName_38 rfl (lv_at hl 3 rfl) ?_
        refine lv_iconst (v := 0) hx hb dX7_mayName_39 (by decide +kernel) ?_
        refine lv_iload_n hx hb dX7_mayName_40 rfl (lv_at hl 4 rfl) ?_
        refine lv_iconst (v := 1) hx hb dX7_mayName_41 (by decide +kernel) ?_
        refine lv_isub hx hb dX7_mayName_42 ?_
        refine vp_callSi (va_Run.run (va_runSN (As := [.int x2, .int 0, .int (x3 - 1)]) (rest := []) ⟨hx, hb, hml, hown, hts⟩ (c_X12_within l D T x2 0 (x3 - 1) 0 ((x3 - 1)).toInt (by decide +kernel) rfl) ⟨(va_cnB 3 hts gX7_mayName_X12_within_n79 rfl rfl rfl (hE.2.1 (RX7, 79, yX12_within) (List.mem_of_getElem? (i := 6) rfl)) (hts (.initialized RX12) (List.mem_of_getElem? (i := 3) rfl)) hs_X12_within ⟨Nat.le_of_ble_eq_true rfl, Nat.le_of_ble_eq_true rfl⟩), (hts (.static yX12_within) (List.mem_of_getElem? (i := 2) rfl)), trivial⟩ (pR_S hP hE [] rfl) rfl rfl hl.1 rfl (lv_room (Nat.le_of_ble_eq_true rfl)) dX7_mayName_43 ⟨Nat.le_of_ble_eq_true rfl, Nat.le_of_ble_eq_true rfl⟩)) (fun r_5 hr_5 => ?_)
        rcases bool_post hr_5 with ⟨c_6, rfl⟩ | ⟨c_6, rfl⟩
        · refine lv_goto (tgt := 58) hx hb dX7_mayName_46 (by decide +kernel) ?_
          refine lv_istore (lv' := [(5, .int 1), (4, .int 0), (0, .ref (ad K)), (1, .int x1), (2, .int x2), (3, .int x3)]) hx hb dX7_mayName_58 hl (by decide +kernel) rfl (fun ls hl => ?_)
          refine lv_iload hx hb dX7_mayName_60 (lv_at hl 1 rfl) ?_
          refine lv_if_eq (tgt := 74) hx hb dX7_mayName_62 (by decide +kernel) (fun _ => ?_) (fun c9 => absurd c9 (by decide +kernel))
          refine lv_iconst (v := 0) hx hb dX7_mayName_74 (by decide +kernel) ?_
          exact W.zret hx hb hr rfl (fun t ht hW => ⟨_, rfl, (by exact (if_neg (fun ⟨⟨hM1, hM2⟩, hM3, hM4⟩ => by first | (have h9 := hM2 (by clear hM1 hM2 hM3 hM4; omega); clear hM1 hM2 hM3 hM4; omega) | (have h9 := hM4 (by clear hM1 hM2 hM3 hM4; omega); clear hM1 hM2 hM3 hM4; omega) | (have h9 := hM1 (by clear hM1 hM2 hM3 hM4; omega); clear hM1 hM2 hM3 hM4; omega) | (have h9 := hM3 (by clear hM1 hM2 hM3 hM4; omega); clear hM1 hM2 hM3 hM4; omega))).symm), ht⟩) (fun _ h => by cases h) dX7_mayName_75
        · refine lv_goto (tgt := 58) hx hb dX7_mayName_46 (by decide +kernel) ?_
          refine lv_istore (lv' := [(5, .int 0), (4, .int 0), (0, .ref (ad K)), (1, .int x1), (2, .int x2), (3, .int x3)]) hx hb dX7_mayName_58 hl (by decide +kernel) rfl (fun ls hl => ?_)
          refine lv_iload hx hb dX7_mayName_60 (lv_at hl 1 rfl) ?_
          refine lv_if_eq (tgt := 74) hx hb dX7_mayName_62 (by decide +kernel) (fun _ => ?_) (fun c9 => absurd c9 (by decide +kernel))
          refine lv_iconst (v := 0) hx hb dX7_mayName_74 (by decide +kernel) ?_
          exact W.zret hx hb hr rfl (fun t ht hW => ⟨_, rfl, (by exact (if_neg (fun ⟨⟨hM1, hM2⟩, hM3, hM4⟩ => by first | (have h9 := hM2 (by clear hM1 hM2 hM3 hM4; omega); clear hM1 hM2 hM3 hM4; omega) | (have h9 := hM4 (by clear hM1 hM2 hM3 hM4; omega); clear hM1 hM2 hM3 hM4; omega) | (have h9 := hM1 (by clear hM1 hM2 hM3 hM4; omega); clear hM1 hM2 hM3 hM4; omega) | (have h9 := hM3 (by clear hM1 hM2 hM3 hM4; omega); clear hM1 hM2 hM3 hM4; omega))).symm), ht⟩) (fun _ h => by cases h) dX7_mayName_75
    · rw [fa_eq] at c_2
      try rw [ti_0] at c_2
      refine lv_iconst (v := 1) hx hb dX7_mayName_23 (by decide +kernel) ?_
      refine lv_goto (tgt := 28) hx hb dX7_mayName_24 (by decide +kernel) ?_
      refine lv_istore (lv' := [(4, .int 1), (0, .ref (ad K)), (1, .int x1), (2, .int x2), (3, .int x3)]) hx hb dX7_mayName_28 hl (by decide +kernel) rfl (fun ls hl => ?_)
      refine lv_aload_n hx hb dX7_mayName_30 rfl (lv_at hl 1 rfl) ?_
      refine va_getE (i := K) hx hb hV.1.1 hi9 hS hown (q := kdQ "names" [0, 0, 1, 1, 1, 2, 2, 2, 1, 2, 1, 1, 2]) (List.mem_of_getElem? (i := 0) rfl) (hts (.fieldLink RX7 70 "ClauseBook$Kind" "names" "I") (List.mem_of_getElem? (i := 1) rfl)) (fun _ h9 => h9) dX7_mayName_31 ?_
      refine W.eq (g2 := F0 m 34 ls [.int (nmT K)]) rfl ?_
      refine lv_iconst (v := 2) hx hb dX7_mayName_34 (by decide +kernel) ?_
      refine lv_icmp_ne (tgt := 49) hx hb dX7_mayName_35 (by decide +kernel) (fun c_7 => ?_) (fun c_7 => ?_)
      · rw [fa_eq] at c_7
        try rw [ti_2] at c_7
        refine lv_iload_n hx hb dX7_mayName_49 rfl (lv_at hl 3 rfl) ?_
        refine lv_if_ne (tgt := 57) hx hb dX7_mayName_50 (by decide +kernel) (fun c_8 => ?_) (fun c_8 => ?_)
        · rw [fa_eq] at c_8
          try rw [ti_0] at c_8
          refine lv_iconst (v := 0) hx hb dX7_mayName_57 (by decide +kernel) ?_
          refine lv_istore (lv' := [(5, .int 0), (4, .int 1), (0, .ref (ad K)), (1, .int x1), (2, .int x2), (3, .int x3)]) hx hb dX7_mayName_58 hl (by decide +kernel) rfl (fun ls hl => ?_)
          refine lv_iload hx hb dX7_mayName_60 (lv_at hl 1 rfl) ?_
          refine lv_if_eq (tgt := 74) hx hb dX7_mayName_62 (by decide +kernel) (fun c9 => absurd c9 (by decide +kernel)) (fun _ => ?_)
          refine lv_iload hx hb dX7_mayName_65 (lv_at hl 0 rfl) ?_
          refine lv_if_eq (tgt := 74) hx hb dX7_mayName_67 (by decide +kernel) (fun _ => ?_) (fun c9 => absurd c9 (by decide +kernel))
          refine lv_iconst (v := 0) hx hb dX7_mayName_74 (by decide +kernel) ?_
          exact W.zret hx hb hr rfl (fun t ht hW => ⟨_, rfl, (by exact (if_neg (fun ⟨⟨hM1, hM2⟩, hM3, hM4⟩ => by first | (have h9 := hM2 (by clear hM1 hM2 hM3 hM4; omega); clear hM1 hM2 hM3 hM4; omega) | (have h9 := hM4 (by clear hM1 hM2 hM3 hM4; omega); clear hM1 hM2 hM3 hM4; omega) | (have h9 := hM1 (by clear hM1 hM2 hM3 hM4; omega); clear hM1 hM2 hM3 hM4; omega) | (have h9 := hM3 (by clear hM1 hM2 hM3 hM4; omega); clear hM1 hM2 hM3 hM4; omega))).symm), ht⟩) (fun _ h => by cases h) dX7_mayName_75
        · rw [fa_eq] at c_8
          try rw [ti_0] at c_8
          refine lv_iconst (v := 1) hx hb dX7_mayName_53 (by decide +kernel) ?_
          refine lv_goto (tgt := 58) hx hb dX7_mayName_54 (by decide +kernel) ?_
          refine lv_istore (lv' := [(5, .int 1), (4, .int 1), (0, .ref (ad K)), (1, .int x1), (2, .int x2), (3, .int x3)]) hx hb dX7_mayName_58 hl (by decide +kernel) rfl (fun ls hl => ?_)
          refine lv_iload hx hb dX7_mayName_60 (lv_at hl 1 rfl) ?_
          refine lv_if_eq (tgt := 74) hx hb dX7_mayName_62 (by decide +kernel) (fun c9 => absurd c9 (by decide +kernel)) (fun _ => ?_)
          refine lv_iload hx hb dX7_mayName_65 (lv_at hl 0 rfl) ?_
          refine lv_if_eq (tgt := 74) hx hb dX7_mayName_67 (by decide +kernel) (fun c9 => absurd c9 (by decide +kernel)) (fun _ => ?_)
          refine lv_iconst (v := 1) hx hb dX7_mayName_70 (by decide +kernel) ?_
          refine lv_goto (tgt := 75) hx hb dX7_mayName_71 (by decide +kernel) ?_
          exact W.zret hx hb hr rfl (fun t ht hW => ⟨_, rfl, (by exact (if_pos ⟨⟨fun a => by omega, fun a => by omega⟩, fun a => by omega, fun a => by omega⟩).symm), ht⟩) (fun _ h => by cases h) dX7_mayName_75
      · rw [fa_eq] at c_7
        try rw [ti_2] at c_7
        refine lv_iload_n hx hb dX7_mayName_38 rfl (lv_at hl 3 rfl) ?_
        refine lv_iconst (v := 0) hx hb dX7_mayName_39 (by decide +kernel) ?_
        refine lv_iload_n hx hb dX7_mayName_40 rfl (lv_at hl 4 rfl) ?_
        refine lv_iconst (v := 1) hx hb dX7_mayName_41 (by decide +kernel) ?_
        refine lv_isub hx hb dX7_mayName_42 ?_
        refine vp_callSi (va_Run.run (va_runSN (As := [.int x2, .int 0, .int (x3 - 1)]) (rest := []) ⟨hx, hb, hml, hown, hts⟩ (c_X12_within l D T x2 0 (x3 - 1) 0 ((x3 - 1)).toInt (by decide +kernel) rfl) ⟨(va_cnB 3 hts gX7_mayName_X12_within_n79 rfl rfl rfl (hE.2.1 (RX7, 79, yX12_within) (List.mem_of_getElem? (i := 6) rfl)) (hts (.initialized RX12) (List.mem_of_getElem? (i := 3) rfl)) hs_X12_within ⟨Nat.le_of_ble_eq_true rfl, Nat.le_of_ble_eq_true rfl⟩), (hts (.static yX12_within) (List.mem_of_getElem? (i := 2) rfl)), trivial⟩ (pR_S hP hE [] rfl) rfl rfl hl.1 rfl (lv_room (Nat.le_of_ble_eq_true rfl)) dX7_mayName_43 ⟨Nat.le_of_ble_eq_true rfl, Nat.le_of_ble_eq_true rfl⟩)) (fun r_9 hr_9 => ?_)
        rcases bool_post hr_9 with ⟨c_10, rfl⟩ | ⟨c_10, rfl⟩
        · refine lv_goto (tgt := 58) hx hb dX7_mayName_46 (by decide +kernel) ?_
          refine lv_istore (lv' := [(5, .int 1), (4, .int 1), (0, .ref (ad K)), (1, .int x1), (2, .int x2), (3, .int x3)]) hx hb dX7_mayName_58 hl (by decide +kernel) rfl (fun ls hl => ?_)
          refine lv_iload hx hb dX7_mayName_60 (lv_at hl 1 rfl) ?_
          refine lv_if_eq (tgt := 74) hx hb dX7_mayName_62 (by decide +kernel) (fun c9 => absurd c9 (by decide +kernel)) (fun _ => ?_)
          refine lv_iload hx hb dX7_mayName_65 (lv_at hl 0 rfl) ?_
          refine lv_if_eq (tgt := 74) hx hb dX7_mayName_67 (by decide +kernel) (fun c9 => absurd c9 (by decide +kernel)) (fun _ => ?_)
          refine lv_iconst (v := 1) hx hb dX7_mayName_70 (by decide +kernel) ?_
          refine lv_goto (tgt := 75) hx hb dX7_mayName_71 (by decide +kernel) ?_
          exact W.zret hx hb hr rfl (fun t ht hW => ⟨_, rfl, (by exact (if_pos ⟨⟨fun a => by omega, fun a => by omega⟩, fun a => by omega, fun a => by omega⟩).symm), ht⟩) (fun _ h => by cases h) dX7_mayName_75
        · refine lv_goto (tgt := 58) hx hb dX7_mayName_46 (by decide +kernel) ?_
          refine lv_istore (lv' := [(5, .int 0), (4, .int 1), (0, .ref (ad K)), (1, .int x1), (2, .int x2), (3, .int x3)]) hx hb dX7_mayName_58 hl (by decide +kernel) rfl (fun ls hl => ?_)
          refine lv_iload hx hb dX7_mayName_60 (lv_at hl 1 rfl) ?_
          refine lv_if_eq (tgt := 74) hx hb dX7_mayName_62 (by decide +kernel) (fun c9 => absurd c9 (by decide +kernel)) (fun _ => ?_)
          refine lv_iload hx hb dX7_mayName_65 (lv_at hl 0 rfl) ?_
          refine lv_if_eq (tgt := 74) hx hb dX7_mayName_67 (by decide +kernel) (fun _ => ?_) (fun c9 => absurd c9 (by decide +kernel))
          refine lv_iconst (v := 0) hx hb dX7_mayName_74 (by decide +kernel) ?_
          exact W.zret hx hb hr rfl (fun t ht hW => ⟨_, rfl, (by exact (if_neg (fun ⟨⟨hM1, hM2⟩, hM3, hM4⟩ => by first | (have h9 := hM2 (by clear hM1 hM2 hM3 hM4; omega); clear hM1 hM2 hM3 hM4; omega) | (have h9 := hM4 (by clear hM1 hM2 hM3 hM4; omega); clear hM1 hM2 hM3 hM4; omega) | (have h9 := hM1 (by clear hM1 hM2 hM3 hM4; omega); clear hM1 hM2 hM3 hM4; omega) | (have h9 := hM3 (by clear hM1 hM2 hM3 hM4; omega); clear hM1 hM2 hM3 hM4; omega))).symm), ht⟩) (fun _ h => by cases h) dX7_mayName_75
  · rw [fa_lt] at c_1
    try rw [ti_1] at c_1
    refine lv_iload_n hx hb dX7_mayName_8 rfl (lv_at hl 1 rfl) ?_
    refine lv_iconst (v := 0) hx hb dX7_mayName_9 (by decide +kernel) ?_
    refine lv_iload_n hx hb dX7_mayName_10 rfl (lv_at hl 3 rfl) ?_
    refine lv_iconst (v := 1) hx hb dX7_mayName_11 (by decide +kernel) ?_
    refine lv_isub hx hb dX7_mayName_12 ?_
    refine vp_callSi (va_Run.run (va_runSN (As := [.int x1, .int 0, .int (x3 - 1)]) (rest := []) ⟨hx, hb, hml, hown, hts⟩ (c_X12_within l D T x1 0 (x3 - 1) 0 ((x3 - 1)).toInt (by decide +kernel) rfl) ⟨(va_cnB 3 hts gX7_mayName_X12_within_n79 rfl rfl rfl (hE.2.1 (RX7, 79, yX12_within) (List.mem_of_getElem? (i := 6) rfl)) (hts (.initialized RX12) (List.mem_of_getElem? (i := 3) rfl)) hs_X12_within ⟨Nat.le_of_ble_eq_true rfl, Nat.le_of_ble_eq_true rfl⟩), (hts (.static yX12_within) (List.mem_of_getElem? (i := 2) rfl)), trivial⟩ (pR_S hP hE [] rfl) rfl rfl hl.1 rfl (lv_room (Nat.le_of_ble_eq_true rfl)) dX7_mayName_13 ⟨Nat.le_of_ble_eq_true rfl, Nat.le_of_ble_eq_true rfl⟩)) (fun r_11 hr_11 => ?_)
    rcases bool_post hr_11 with ⟨c_12, rfl⟩ | ⟨c_12, rfl⟩
    · refine lv_goto (tgt := 28) hx hb dX7_mayName_16 (by decide +kernel) ?_
      refine lv_istore (lv' := [(4, .int 1), (0, .ref (ad K)), (1, .int x1), (2, .int x2), (3, .int x3)]) hx hb dX7_mayName_28 hl (by decide +kernel) rfl (fun ls hl => ?_)
      refine lv_aload_n hx hb dX7_mayName_30 rfl (lv_at hl 1 rfl) ?_
      refine va_getE (i := K) hx hb hV.1.1 hi9 hS hown (q := kdQ "names" [0, 0, 1, 1, 1, 2, 2, 2, 1, 2, 1, 1, 2]) (List.mem_of_getElem? (i := 0) rfl) (hts (.fieldLink RX7 70 "ClauseBook$Kind" "names" "I") (List.mem_of_getElem? (i := 1) rfl)) (fun _ h9 => h9) dX7_mayName_31 ?_
      refine W.eq (g2 := F0 m 34 ls [.int (nmT K)]) rfl ?_
      refine lv_iconst (v := 2) hx hb dX7_mayName_34 (by decide +kernel) ?_
      refine lv_icmp_ne (tgt := 49) hx hb dX7_mayName_35 (by decide +kernel) (fun c_13 => ?_) (fun c_13 => ?_)
      · rw [fa_eq] at c_13
        try rw [ti_2] at c_13
        refine lv_iload_n hx hb dX7_mayName_49 rfl (lv_at hl 3 rfl) ?_
        refine lv_if_ne (tgt := 57) hx hb dX7_mayName_50 (by decide +kernel) (fun c_14 => ?_) (fun c_14 => ?_)
        · rw [fa_eq] at c_14
          try rw [ti_0] at c_14
          refine lv_iconst (v := 0) hx hb dX7_mayName_57 (by decide +kernel) ?_
          refine lv_istore (lv' := [(5, .int 0), (4, .int 1), (0, .ref (ad K)), (1, .int x1), (2, .int x2), (3, .int x3)]) hx hb dX7_mayName_58 hl (by decide +kernel) rfl (fun ls hl => ?_)
          refine lv_iload hx hb dX7_mayName_60 (lv_at hl 1 rfl) ?_
          refine lv_if_eq (tgt := 74) hx hb dX7_mayName_62 (by decide +kernel) (fun c9 => absurd c9 (by decide +kernel)) (fun _ => ?_)
          refine lv_iload hx hb dX7_mayName_65 (lv_at hl 0 rfl) ?_
          refine lv_if_eq (tgt := 74) hx hb dX7_mayName_67 (by decide +kernel) (fun _ => ?_) (fun c9 => absurd c9 (by decide +kernel))
          refine lv_iconst (v := 0) hx hb dX7_mayName_74 (by decide +kernel) ?_
          exact W.zret hx hb hr rfl (fun t ht hW => ⟨_, rfl, (by exact (if_neg (fun ⟨⟨hM1, hM2⟩, hM3, hM4⟩ => by first | (have h9 := hM2 (by clear hM1 hM2 hM3 hM4; omega); clear hM1 hM2 hM3 hM4; omega) | (have h9 := hM4 (by clear hM1 hM2 hM3 hM4; omega); clear hM1 hM2 hM3 hM4; omega) | (have h9 := hM1 (by clear hM1 hM2 hM3 hM4; omega); clear hM1 hM2 hM3 hM4; omega) | (have h9 := hM3 (by clear hM1 hM2 hM3 hM4; omega); clear hM1 hM2 hM3 hM4; omega))).symm), ht⟩) (fun _ h => by cases h) dX7_mayName_75
        · rw [fa_eq] at c_14
          try rw [ti_0] at c_14
          refine lv_iconst (v := 1) hx hb dX7_mayName_53 (by decide +kernel) ?_
          refine lv_goto (tgt := 58) hx hb dX7_mayName_54 (by decide +kernel) ?_
          refine lv_istore (lv' := [(5, .int 1), (4, .int 1), (0, .ref (ad K)), (1, .int x1), (2, .int x2), (3, .int x3)]) hx hb dX7_mayName_58 hl (by decide +kernel) rfl (fun ls hl => ?_)
          refine lv_iload hx hb dX7_mayName_60 (lv_at hl 1 rfl) ?_
          refine lv_if_eq (tgt := 74) hx hb dX7_mayName_62 (by decide +kernel) (fun c9 => absurd c9 (by decide +kernel)) (fun _ => ?_)
          refine lv_iload hx hb dX7_mayName_65 (lv_at hl 0 rfl) ?_
          refine lv_if_eq (tgt := 74) hx hb dX7_mayName_67 (by decide +kernel) (fun c9 => absurd c9 (by decide +kernel)) (fun _ => ?_)
          refine lv_iconst (v := 1) hx hb dX7_mayName_70 (by decide +kernel) ?_
          refine lv_goto (tgt := 75) hx hb dX7_mayName_71 (by decide +kernel) ?_
          exact W.zret hx hb hr rfl (fun t ht hW => ⟨_, rfl, (by exact (if_pos ⟨⟨fun a => by omega, fun a => by omega⟩, fun a => by omega, fun a => by omega⟩).symm), ht⟩) (fun _ h => by cases h) dX7_mayName_75
      · rw [fa_eq] at c_13
        try rw [ti_2] at c_13
        refine lv_iload_n hx hb dX7_mayName_38 rfl (lv_at hl 3 rfl) ?_
        refine lv_iconst (v := 0) hx hb dX7_mayName_39 (by decide +kernel) ?_
        refine lv_iload_n hx hb dX7_mayName_40 rfl (lv_at hl 4 rfl) ?_
        refine lv_iconst (v := 1) hx hb dX7_mayName_41 (by decide +kernel) ?_
        refine lv_isub hx hb dX7_mayName_42 ?_
        refine vp_callSi (va_Run.run (va_runSN (As := [.int x2, .int 0, .int (x3 - 1)]) (rest := []) ⟨hx, hb, hml, hown, hts⟩ (c_X12_within l D T x2 0 (x3 - 1) 0 ((x3 - 1)).toInt (by decide +kernel) rfl) ⟨(va_cnB 3 hts gX7_mayName_X12_within_n79 rfl rfl rfl (hE.2.1 (RX7, 79, yX12_within) (List.mem_of_getElem? (i := 6) rfl)) (hts (.initialized RX12) (List.mem_of_getElem? (i := 3) rfl)) hs_X12_within ⟨Nat.le_of_ble_eq_true rfl, Nat.le_of_ble_eq_true rfl⟩), (hts (.static yX12_within) (List.mem_of_getElem? (i := 2) rfl)), trivial⟩ (pR_S hP hE [] rfl) rfl rfl hl.1 rfl (lv_room (Nat.le_of_ble_eq_true rfl)) dX7_mayName_43 ⟨Nat.le_of_ble_eq_true rfl, Nat.le_of_ble_eq_true rfl⟩)) (fun r_15 hr_15 => ?_)
        rcases bool_post hr_15 with ⟨c_16, rfl⟩ | ⟨c_16, rfl⟩
        · refine lv_goto (tgt := 58) hx hb dX7_mayName_46 (by decide +kernel) ?_
          refine lv_istore (lv' := [(5, .int 1), (4, .int 1), (0, .ref (ad K)), (1, .int x1), (2, .int x2), (3, .int x3)]) hx hb dX7_mayName_58 hl (by decide +kernel) rfl (fun ls hl => ?_)
          refine lv_iload hx hb dX7_mayName_60 (lv_at hl 1 rfl) ?_
          refine lv_if_eq (tgt := 74) hx hb dX7_mayName_62 (by decide +kernel) (fun c9 => absurd c9 (by decide +kernel)) (fun _ => ?_)
          refine lv_iload hx hb dX7_mayName_65 (lv_at hl 0 rfl) ?_
          refine lv_if_eq (tgt := 74) hx hb dX7_mayName_67 (by decide +kernel) (fun c9 => absurd c9 (by decide +kernel)) (fun _ => ?_)
          refine lv_iconst (v := 1) hx hb dX7_mayName_70 (by decide +kernel) ?_
          refine lv_goto (tgt := 75) hx hb dX7_mayName_71 (by decide +kernel) ?_
          exact W.zret hx hb hr rfl (fun t ht hW => ⟨_, rfl, (by exact (if_pos ⟨⟨fun a => by omega, fun a => by omega⟩, fun a => by omega, fun a => by omega⟩).symm), ht⟩) (fun _ h => by cases h) dX7_mayName_75
        · refine lv_goto (tgt := 58) hx hb dX7_mayName_46 (by decide +kernel) ?_
          refine lv_istore (lv' := [(5, .int 0), (4, .int 1), (0, .ref (ad K)), (1, .int x1), (2, .int x2), (3, .int x3)]) hx hb dX7_mayName_58 hl (by decide +kernel) rfl (fun ls hl => ?_)
          refine lv_iload hx hb dX7_mayName_60 (lv_at hl 1 rfl) ?_
          refine lv_if_eq (tgt := 74) hx hb dX7_mayName_62 (by decide +kernel) (fun c9 => absurd c9 (by decide +kernel)) (fun _ => ?_)
          refine lv_iload hx hb dX7_mayName_65 (lv_at hl 0 rfl) ?_
          refine lv_if_eq (tgt := 74) hx hb dX7_mayName_67 (by decide +kernel) (fun _ => ?_) (fun c9 => absurd c9 (by decide +kernel))
          refine lv_iconst (v := 0) hx hb dX7_mayName_74 (by decide +kernel) ?_
          exact W.zret hx hb hr rfl (fun t ht hW => ⟨_, rfl, (by exact (if_neg (fun ⟨⟨hM1, hM2⟩, hM3, hM4⟩ => by first | (have h9 := hM2 (by clear hM1 hM2 hM3 hM4; omega); clear hM1 hM2 hM3 hM4; omega) | (have h9 := hM4 (by clear hM1 hM2 hM3 hM4; omega); clear hM1 hM2 hM3 hM4; omega) | (have h9 := hM1 (by clear hM1 hM2 hM3 hM4; omega); clear hM1 hM2 hM3 hM4; omega) | (have h9 := hM3 (by clear hM1 hM2 hM3 hM4; omega); clear hM1 hM2 hM3 hM4; omega))).symm), ht⟩) (fun _ h => by cases h) dX7_mayName_75
    · refine lv_goto (tgt := 28) hx hb dX7_mayName_16 (by decide +kernel) ?_
      refine lv_istore (lv' := [(4, .int 0), (0, .ref (ad K)), (1, .int x1), (2, .int x2), (3, .int x3)]) hx hb dX7_mayName_28 hl (by decide +kernel) rfl (fun ls hl => ?_)
      refine lv_aload_n hx hb dX7_mayName_30 rfl (lv_at hl 1 rfl) ?_
      refine va_getE (i := K) hx hb hV.1.1 hi9 hS hown (q := kdQ "names" [0, 0, 1, 1, 1, 2, 2, 2, 1, 2, 1, 1, 2]) (List.mem_of_getElem? (i := 0) rfl) (hts (.fieldLink RX7 70 "ClauseBook$Kind" "names" "I") (List.mem_of_getElem? (i := 1) rfl)) (fun _ h9 => h9) dX7_mayName_31 ?_
      refine W.eq (g2 := F0 m 34 ls [.int (nmT K)]) rfl ?_
      refine lv_iconst (v := 2) hx hb dX7_mayName_34 (by decide +kernel) ?_
      refine lv_icmp_ne (tgt := 49) hx hb dX7_mayName_35 (by decide +kernel) (fun c_17 => ?_) (fun c_17 => ?_)
      · rw [fa_eq] at c_17
        try rw [ti_2] at c_17
        refine lv_iload_n hx hb dX7_mayName_49 rfl (lv_at hl 3 rfl) ?_
        refine lv_if_ne (tgt := 57) hx hb dX7_mayName_50 (by decide +kernel) (fun c_18 => ?_) (fun c_18 => ?_)
        · rw [fa_eq] at c_18
          try rw [ti_0] at c_18
          refine lv_iconst (v := 0) hx hb dX7_mayName_57 (by decide +kernel) ?_
          refine lv_istore (lv' := [(5, .int 0), (4, .int 0), (0, .ref (ad K)), (1, .int x1), (2, .int x2), (3, .int x3)]) hx hb dX7_mayName_58 hl (by decide +kernel) rfl (fun ls hl => ?_)
          refine lv_iload hx hb dX7_mayName_60 (lv_at hl 1 rfl) ?_
          refine lv_if_eq (tgt := 74) hx hb dX7_mayName_62 (by decide +kernel) (fun _ => ?_) (fun c9 => absurd c9 (by decide +kernel))
          refine lv_iconst (v := 0) hx hb dX7_mayName_74 (by decide +kernel) ?_
          exact W.zret hx hb hr rfl (fun t ht hW => ⟨_, rfl, (by exact (if_neg (fun ⟨⟨hM1, hM2⟩, hM3, hM4⟩ => by first | (have h9 := hM2 (by clear hM1 hM2 hM3 hM4; omega); clear hM1 hM2 hM3 hM4; omega) | (have h9 := hM4 (by clear hM1 hM2 hM3 hM4; omega); clear hM1 hM2 hM3 hM4; omega) | (have h9 := hM1 (by clear hM1 hM2 hM3 hM4; omega); clear hM1 hM2 hM3 hM4; omega) | (have h9 := hM3 (by clear hM1 hM2 hM3 hM4; omega); clear hM1 hM2 hM3 hM4; omega))).symm), ht⟩) (fun _ h => by cases h) dX7_mayName_75
        · rw [fa_eq] at c_18
          try rw [ti_0] at c_18
          refine lv_iconst (v := 1) hx hb dX7_mayName_53 (by decide +kernel) ?_
          refine lv_goto (tgt := 58) hx hb dX7_mayName_54 (by decide +kernel) ?_
          refine lv_istore (lv' := [(5, .int 1), (4, .int 0), (0, .ref (ad K)), (1, .int x1), (2, .int x2), (3, .int x3)]) hx hb dX7_mayName_58 hl (by decide +kernel) rfl (fun ls hl => ?_)
          refine lv_iload hx hb dX7_mayName_60 (lv_at hl 1 rfl) ?_
          refine lv_if_eq (tgt := 74) hx hb dX7_mayName_62 (by decide +kernel) (fun _ => ?_) (fun c9 => absurd c9 (by decide +kernel))
          refine lv_iconst (v := 0) hx hb dX7_mayName_74 (by decide +kernel) ?_
          exact W.zret hx hb hr rfl (fun t ht hW => ⟨_, rfl, (by exact (if_neg (fun ⟨⟨hM1, hM2⟩, hM3, hM4⟩ => by first | (have h9 := hM2 (by clear hM1 hM2 hM3 hM4; omega); clear hM1 hM2 hM3 hM4; omega) | (have h9 := hM4 (by clear hM1 hM2 hM3 hM4; omega); clear hM1 hM2 hM3 hM4; omega) | (have h9 := hM1 (by clear hM1 hM2 hM3 hM4; omega); clear hM1 hM2 hM3 hM4; omega) | (have h9 := hM3 (by clear hM1 hM2 hM3 hM4; omega); clear hM1 hM2 hM3 hM4; omega))).symm), ht⟩) (fun _ h => by cases h) dX7_mayName_75
      · rw [fa_eq] at c_17
        try rw [ti_2] at c_17
        refine lv_iload_n hx hb dX7_mayName_38 rfl (lv_at hl 3 rfl) ?_
        refine lv_iconst (v := 0) hx hb dX7_mayName_39 (by decide +kernel) ?_
        refine lv_iload_n hx hb dX7_mayName_40 rfl (lv_at hl 4 rfl) ?_
        refine lv_iconst (v := 1) hx hb dX7_mayName_41 (by decide +kernel) ?_
        refine lv_isub hx hb dX7_mayName_42 ?_
        refine vp_callSi (va_Run.run (va_runSN (As := [.int x2, .int 0, .int (x3 - 1)]) (rest := []) ⟨hx, hb, hml, hown, hts⟩ (c_X12_within l D T x2 0 (x3 - 1) 0 ((x3 - 1)).toInt (by decide +kernel) rfl) ⟨(va_cnB 3 hts gX7_mayName_X12_within_n79 rfl rfl rfl (hE.2.1 (RX7, 79, yX12_within) (List.mem_of_getElem? (i := 6) rfl)) (hts (.initialized RX12) (List.mem_of_getElem? (i := 3) rfl)) hs_X12_within ⟨Nat.le_of_ble_eq_true rfl, Nat.le_of_ble_eq_true rfl⟩), (hts (.static yX12_within) (List.mem_of_getElem? (i := 2) rfl)), trivial⟩ (pR_S hP hE [] rfl) rfl rfl hl.1 rfl (lv_room (Nat.le_of_ble_eq_true rfl)) dX7_mayName_43 ⟨Nat.le_of_ble_eq_true rfl, Nat.le_of_ble_eq_true rfl⟩)) (fun r_19 hr_19 => ?_)
        rcases bool_post hr_19 with ⟨c_20, rfl⟩ | ⟨c_20, rfl⟩
        · refine lv_goto (tgt := 58) hx hb dX7_mayName_46 (by decide +kernel) ?_
          refine lv_istore (lv' := [(5, .int 1), (4, .int 0), (0, .ref (ad K)), (1, .int x1), (2, .int x2), (3, .int x3)]) hx hb dX7_mayName_58 hl (by decide +kernel) rfl (fun ls hl => ?_)
          refine lv_iload hx hb dX7_mayName_60 (lv_at hl 1 rfl) ?_
          refine lv_if_eq (tgt := 74) hx hb dX7_mayName_62 (by decide +kernel) (fun _ => ?_) (fun c9 => absurd c9 (by decide +kernel))
          refine lv_iconst (v := 0) hx hb dX7_mayName_74 (by decide +kernel) ?_
          exact W.zret hx hb hr rfl (fun t ht hW => ⟨_, rfl, (by exact (if_neg (fun ⟨⟨hM1, hM2⟩, hM3, hM4⟩ => by first | (have h9 := hM2 (by clear hM1 hM2 hM3 hM4; omega); clear hM1 hM2 hM3 hM4; omega) | (have h9 := hM4 (by clear hM1 hM2 hM3 hM4; omega); clear hM1 hM2 hM3 hM4; omega) | (have h9 := hM1 (by clear hM1 hM2 hM3 hM4; omega); clear hM1 hM2 hM3 hM4; omega) | (have h9 := hM3 (by clear hM1 hM2 hM3 hM4; omega); clear hM1 hM2 hM3 hM4; omega))).symm), ht⟩) (fun _ h => by cases h) dX7_mayName_75
        · refine lv_goto (tgt := 58) hx hb dX7_mayName_46 (by decide +kernel) ?_
          refine lv_istore (lv' := [(5, .int 0), (4, .int 0), (0, .ref (ad K)), (1, .int x1), (2, .int x2), (3, .int x3)]) hx hb dX7_mayName_58 hl (by decide +kernel) rfl (fun ls hl => ?_)
          refine lv_iload hx hb dX7_mayName_60 (lv_at hl 1 rfl) ?_
          refine lv_if_eq (tgt := 74) hx hb dX7_mayName_62 (by decide +kernel) (fun _ => ?_) (fun c9 => absurd c9 (by decide +kernel))
          refine lv_iconst (v := 0) hx hb dX7_mayName_74 (by decide +kernel) ?_
          exact W.zret hx hb hr rfl (fun t ht hW => ⟨_, rfl, (by exact (if_neg (fun ⟨⟨hM1, hM2⟩, hM3, hM4⟩ => by first | (have h9 := hM2 (by clear hM1 hM2 hM3 hM4; omega); clear hM1 hM2 hM3 hM4; omega) | (have h9 := hM4 (by clear hM1 hM2 hM3 hM4; omega); clear hM1 hM2 hM3 hM4; omega) | (have h9 := hM1 (by clear hM1 hM2 hM3 hM4; omega); clear hM1 hM2 hM3 hM4; omega) | (have h9 := hM3 (by clear hM1 hM2 hM3 hM4; omega); clear hM1 hM2 hM3 hM4; omega))).symm), ht⟩) (fun _ h => by cases h) dX7_mayName_75
