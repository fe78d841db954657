theorem dX13_spotAt_0 : decode cX13_spotAt 0 = .ok (.iconst 0, 1) := by decide +kernel
theorem dX13_spotAt_1 : decode cX13_spotAt 1 = .ok (.istore_n 2, 1) := by decide +kernel
theorem dX13_spotAt_10 : decode cX13_spotAt 10 = .ok (.iload_n 0, 1) := by decide +kernel
theorem dX13_spotAt_11 : decode cX13_spotAt 11 = .ok (.iload_n 3, 1) := by decide +kernel
theorem dX13_spotAt_12 : decode cX13_spotAt 12 = .ok (.ishr, 1) := by decide +kernel
theorem dX13_spotAt_13 : decode cX13_spotAt 13 = .ok (.iconst 1, 1) := by decide +kernel
theorem dX13_spotAt_14 : decode cX13_spotAt 14 = .ok (.iand, 1) := by decide +kernel
theorem dX13_spotAt_15 : decode cX13_spotAt 15 = .ok (.iadd, 1) := by decide +kernel
theorem dX13_spotAt_16 : decode cX13_spotAt 16 = .ok (.istore_n 2, 1) := by decide +kernel
theorem dX13_spotAt_17 : decode cX13_spotAt 17 = .ok (.iinc 3 1, 3) := by decide +kernel
theorem dX13_spotAt_2 : decode cX13_spotAt 2 = .ok (.iconst 0, 1) := by decide +kernel
theorem dX13_spotAt_20 : decode cX13_spotAt 20 = .ok (.goto (-16), 3) := by decide +kernel
theorem dX13_spotAt_23 : decode cX13_spotAt 23 = .ok (.iload_n 2, 1) := by decide +kernel
theorem dX13_spotAt_24 : decode cX13_spotAt 24 = .ok (.ireturn, 1) := by decide +kernel
theorem dX13_spotAt_3 : decode cX13_spotAt 3 = .ok (.istore_n 3, 1) := by decide +kernel
theorem dX13_spotAt_4 : decode cX13_spotAt 4 = .ok (.iload_n 3, 1) := by decide +kernel
theorem dX13_spotAt_5 : decode cX13_spotAt 5 = .ok (.iload_n 1, 1) := by decide +kernel
theorem dX13_spotAt_6 : decode cX13_spotAt 6 = .ok (.if_icmp .ge 17, 3) := by decide +kernel
theorem dX13_spotAt_9 : decode cX13_spotAt 9 = .ok (.iload_n 2, 1) := by decide +kernel
set_option maxHeartbeats 4000000 in
set_option maxRecDepth 100000 in
theorem c_X13_spotAt (l : Launch) (D : va_G) (T : Nat → ClassId) (x0 : Int32) (x1 : Int32) (hp0 : 0 ≤ x0.toInt ∧ x0.toInt ≤ 63) (hd0 : 0 ≤ x1.toInt ∧ x1.toInt ≤ 6) : Met l yX13_spotAt wsX13_spotAt ({ frames := 0, cells := 0, slots := 0, locals := 0 }) (pR [.int x0, .int x1] D T []) (vp_Si (fun r => r = sp_bits (x0 &&& ((1 <<< (x1 &&& 31)) - 1)))) 0 0 (fun _ => False) := by
  refine Met.ofW (cc := cX13_spotAt) (maxL := 4) (ret := (some .int)) (by decide) rfl ?_
  intro p e s m args below meth c s₁ B hml hv
  obtain ⟨rfl, hP, hE⟩ := hv
  have hx := B.exec
  have hb := B.bytes
  have hr := B.returns
  have hts := atoms_spec (ws := wsX13_spotAt) B.pre
  have hown : s.vm.findClass RX13 = some m.cls := findClass_of_methodNamed B.named
  have hlocks := B.notSynchronized
  have hP : va_P D vwCl [] s.heap := hP
  have hl := lv_entry ([.int x0, .int x1]) (n := 4) (Nat.le_of_ble_eq_true rfl)
  rw [lg_entry_eq]
  generalize (lg_sl ([.int x0, .int x1]) ++ List.replicate (4 - (lg_sl ([.int x0, .int x1])).length) Slot.unset).toArray = ls at hl ⊢
  have hl : lv_has ls 4 [(0, .int x0), (1, .int x1)] := hl
  rcases in7 (x := x1) (by omega) with rfl | rfl | rfl | rfl | rfl | rfl | rfl
  · refine lv_iconst (v := 0) hx hb dX13_spotAt_0 (by decide) ?_
    refine lv_istore_n (lv' := [(2, .int 0), (0, .int x0), (1, .int 0)]) hx hb dX13_spotAt_1 rfl hl (by decide) rfl (fun ls hl => ?_)
    refine lv_iconst (v := 0) hx hb dX13_spotAt_2 (by decide) ?_
    refine lv_istore_n (lv' := [(3, .int 0), (2, .int 0), (0, .int x0), (1, .int 0)]) hx hb dX13_spotAt_3 rfl hl (by decide) rfl (fun ls hl => ?_)
    refine lv_iload_n hx hb dX13_spotAt_4 rfl (lv_at hl 0 rfl) ?_
    refine lv_iload_n hx hb dX13_spotAt_5 rfl (lv_at hl 3 rfl) ?_
    refine lv_icmp_ge (tgt := 23) hx hb dX13_spotAt_6 (by decide) (fun _ => ?_) (fun c9 => absurd c9 (by decide))
    refine lv_iload_n hx hb dX13_spotAt_23 rfl (lv_at hl 1 rfl) ?_
    exact W.iret hx hb hr (fun t ht hW => ⟨_, rfl, (by subst_vars; exact spot_0 hp0), ht⟩) (fun _ h => by cases h) dX13_spotAt_24
  · refine lv_iconst (v := 0) hx hb dX13_spotAt_0 (by decide) ?_
    refine lv_istore_n (lv' := [(2, .int 0), (0, .int x0), (1, .int 1)]) hx hb dX13_spotAt_1 rfl hl (by decide) rfl (fun ls hl => ?_)
    refine lv_iconst (v := 0) hx hb dX13_spotAt_2 (by decide) ?_
    refine lv_istore_n (lv' := [(3, .int 0), (2, .int 0), (0, .int x0), (1, .int 1)]) hx hb dX13_spotAt_3 rfl hl (by decide) rfl (fun ls hl => ?_)
    refine lv_iload_n hx hb dX13_spotAt_4 rfl (lv_at hl 0 rfl) ?_
    refine lv_iload_n hx hb dX13_spotAt_5 rfl (lv_at hl 3 rfl) ?_
    refine lv_icmp_ge (tgt := 23) hx hb dX13_spotAt_6 (by decide) (fun c9 => absurd c9 (by decide)) (fun _ => ?_)
    refine lv_iload_n hx hb dX13_spotAt_9 rfl (lv_at hl 1 rfl) ?_
    refine lv_iload_n hx hb dX13_spotAt_10 rfl (lv_at hl 2 rfl) ?_
    refine lv_iload_n hx hb dX13_spotAt_11 rfl (lv_at hl 0 rfl) ?_
    refine lv_ishr hx hb dX13_spotAt_12 ?_
    refine lv_iconst (v := 1) hx hb dX13_spotAt_13 (by decide) ?_
    refine lv_iand hx hb dX13_spotAt_14 ?_
    refine lv_iadd hx hb dX13_spotAt_15 ?_
    refine lv_topi (fun z_1 ez_1 => ?_)
    refine lv_istore_n (lv' := [(2, .int z_1), (3, .int 0), (0, .int x0), (1, .int 1)]) hx hb dX13_spotAt_16 rfl hl (by decide) rfl (fun ls hl => ?_)
    refine lv_iinc (v := 1) (lv' := [(3, .int 1), (2, .int z_1), (0, .int x0), (1, .int 1)]) hx hb dX13_spotAt_17 hl (k := 1) rfl (by decide) (by decide) rfl (fun ls hl => ?_)
    refine lv_goto (tgt := 4) hx hb dX13_spotAt_20 (by decide) ?_
    refine lv_iload_n hx hb dX13_spotAt_4 rfl (lv_at hl 0 rfl) ?_
    refine lv_iload_n hx hb dX13_spotAt_5 rfl (lv_at hl 3 rfl) ?_
    refine lv_icmp_ge (tgt := 23) hx hb dX13_spotAt_6 (by decide) (fun _ => ?_) (fun c9 => absurd c9 (by decide))
    refine lv_iload_n hx hb dX13_spotAt_23 rfl (lv_at hl 1 rfl) ?_
    exact W.iret hx hb hr (fun t ht hW => ⟨_, rfl, (by subst_vars; exact spot_1 hp0), ht⟩) (fun _ h => by cases h) dX13_spotAt_24
  · refine lv_iconst (v := 0) hx hb dX13_spotAt_0 (by decide) ?_
    refine lv_istore_n (lv' := [(2, .int 0), (0, .int x0), (1, .int 2)]) hx hb dX13_spotAt_1 rfl hl (by decide) rfl (fun ls hl => ?_)
    refine lv_iconst (v := 0) hx hb dX13_spotAt_2 (by decide) ?_
    refine lv_istore_n (lv' := [(3, .int 0), (2, .int 0), (0, .int x0), (1, .int 2)]) hx hb dX13_spotAt_3 rfl hl (by decide) rfl (fun ls hl => ?_)
    refine lv_iload_n hx hb dX13_spotAt_4 rfl (lv_at hl 0 rfl) ?_
    refine lv_iload_n hx hb dX13_spotAt_5 rfl (lv_at hl 3 rfl) ?_
    refine lv_icmp_ge (tgt := 23) hx hb dX13_spotAt_6 (by decide) (fun c9 => absurd c9 (by decide)) (fun _ => ?_)
    refine lv_iload_n hx hb dX13_spotAt_9 rfl (lv_at hl 1 rfl) ?_
    refine lv_iload_n hx hb dX13_spotAt_10 rfl (lv_at hl 2 rfl) ?_
    refine lv_iload_n hx hb dX13_spotAt_11 rfl (lv_at hl 0 rfl) ?_
    refine lv_ishr hx hb dX13_spotAt_12 ?_
    refine lv_iconst (v := 1) hx hb dX13_spotAt_13 (by decide) ?_
    refine lv_iand hx hb dX13_spotAt_14 ?_
    refine lv_iadd hx hb dX13_spotAt_15 ?_
    refine lv_topi (fun z_2 ez_2 => ?_)
    refine lv_istore_n (lv' := [(2, .int z_2), (3, .int 0), (0, .int x0), (1, .int 2)]) hx hb dX13_spotAt_16 rfl hl (by decide) rfl (fun ls hl => ?_)
    refine lv_iinc (v := 1) (lv' := [(3, .int 1), (2, .int z_2), (0, .int x0), (1, .int 2)]) hx hb dX13_spotAt_17 hl (k := 1) rfl (by decide) (by decide) rfl (fun ls hl => ?_)
    refine lv_goto (tgt := 4) hx hb dX13_spotAt_20 (by decide) ?_
    refine lv_iload_n hx hb dX13_spotAt_4 rfl (lv_at hl 0 rfl) ?_
    refine lv_iload_n hx hb dX13_spotAt_5 rfl (lv_at hl 3 rfl) ?_
    refine lv_icmp_ge (tgt := 23) hx hb dX13_spotAt_6 (by decide) (fun c9 => absurd c9 (by decide)) (fun _ => ?_)
    refine lv_iload_n hx hb dX13_spotAt_9 rfl (lv_at hl 1 rfl) ?_
    refine lv_iload_n hx hb dX13_spotAt_10 rfl (lv_at hl 2 rfl) ?_
    refine lv_iload_n hx hb dX13_spotAt_11 rfl (lv_at hl 0 rfl) ?_
    refine lv_ishr hx hb dX13_spotAt_12 ?_
    refine lv_iconst (v := 1) hx hb dX13_spotAt_13 (by decide) ?_
    refine lv_iand hx hb dX13_spotAt_14 ?_
    refine lv_iadd hx hb dX13_spotAt_15 ?_
    refine lv_topi (fun z_3 ez_3 => ?_)
    refine lv_istore_n (lv' := [(2, .int z_3), (3, .int 1), (0, .int x0), (1, .int 2)]) hx hb dX13_spotAt_16 rfl hl (by decide) rfl (fun ls hl => ?_)
    refine lv_iinc (v := 2) (lv' := [(3, .int 2), (2, .int z_3), (0, .int x0), (1, .int 2)]) hx hb dX13_spotAt_17 hl (k := 1) rfl (by decide) (by decide) rfl (fun ls hl => ?_)
    refine lv_goto (tgt := 4) hx hb dX13_spotAt_20 (by decide) ?_
    refine lv_iload_n hx hb dX13_spotAt_4 rfl (lv_at hl 0 rfl) ?_
    refine lv_iload_n hx hb dX13_spotAt_5 rfl (lv_at hl 3 rfl) ?_
    refine lv_icmp_ge (tgt := 23) hx hb dX13_spotAt_6 (by decide) (fun _ => ?_) (fun c9 => absurd c9 (by decide))
    refine lv_iload_n hx hb dX13_spotAt_23 rfl (lv_at hl 1 rfl) ?_
    exact W.iret hx hb hr (fun t ht hW => ⟨_, rfl, (by subst_vars; exact spot_2 hp0), ht⟩) (fun _ h => by cases h) dX13_spotAt_24
  · refine lv_iconst (v := 0) hx hb dX13_spotAt_0 (by decide) ?_
    refine lv_istore_n (lv' := [(2, .int 0), (0, .int x0), (1, .int 3)]) hx hb dX13_spotAt_1 rfl hl (by decide) rfl (fun ls hl => ?_)
    refine lv_iconst (v := 0) hx hb dX13_spotAt_2 (by decide) ?_
    refine lv_istore_n (lv' := [(3, .int 0), (2, .int 0), (0, .int x0), (1, .int 3)]) hx hb dX13_spotAt_3 rfl hl (by decide) rfl (fun ls hl => ?_)
    refine lv_iload_n hx hb dX13_spotAt_4 rfl (lv_at hl 0 rfl) ?_
    refine lv_iload_n hx hb dX13_spotAt_5 rfl (lv_at hl 3 rfl) ?_
    refine lv_icmp_ge (tgt := 23) hx hb dX13_spotAt_6 (by decide) (fun c9 => absurd c9 (by decide)) (fun _ => ?_)
    refine lv_iload_n hx hb dX13_spotAt_9 rfl (lv_at hl 1 rfl) ?_
    refine lv_iload_n hx hb dX13_spotAt_10 rfl (lv_at hl 2 rfl) ?_
    refine lv_iload_n hx hb dX13_spotAt_11 rfl (lv_at hl 0 rfl) ?_
    refine lv_ishr hx hb dX13_spotAt_12 ?_
    refine lv_iconst (v := 1) hx hb dX13_spotAt_13 (by decide) ?_
    refine lv_iand hx hb dX13_spotAt_14 ?_
    refine lv_iadd hx hb dX13_spotAt_15 ?_
    refine lv_topi (fun z_4 ez_4 => ?_)
    refine lv_istore_n (lv' := [(2, .int z_4), (3, .int 0), (0, .int x0), (1, .int 3)]) hx hb dX13_spotAt_16 rfl hl (by decide) rfl (fun ls hl => ?_)
    refine lv_iinc (v := 1) (lv' := [(3, .int 1), (2, .int z_4), (0, .int x0), (1, .int 3)]) hx hb dX13_spotAt_17 hl (k := 1) rfl (by decide) (by decide) rfl (fun ls hl => ?_)
    refine lv_goto (tgt := 4) hx hb dX13_spotAt_20 (by decide) ?_
    refine lv_iload_n hx hb dX13_spotAt_4 rfl (lv_at hl 0 rfl) ?_
    refine lv_iload_n hx hb dX13_spotAt_5 rfl (lv_at hl 3 rfl) ?_
    refine lv_icmp_ge (tgt := 23) hx hb dX13_spotAt_6 (by decide) (fun c9 => absurd c9 (by decide)) (fun _ => ?_)
    refine lv_iload_n hx hb dX13_spotAt_9 rfl (lv_at hl 1 rfl) ?_
    refine lv_iload_n hx hb dX13_spotAt_10 rfl (lv_at hl 2 rfl) ?_
    refine lv_iload_n hx hb dX13_spotAt_11 rfl (lv_at hl 0 rfl) ?_
    refine lv_ishr hx hb dX13_spotAt_12 ?_
    refine lv_iconst (v := 1) hx hb dX13_spotAt_13 (by decide) ?_
    refine lv_iand hx hb dX13_spotAt_14 ?_
    refine lv_iadd hx hb dX13_spotAt_15 ?_
    refine lv_topi (fun z_5 ez_5 => ?_)
    refine lv_istore_n (lv' := [(2, .int z_5), (3, .int 1), (0, .int x0), (1, .int 3)]) hx hb dX13_spotAt_16 rfl hl (by decide) rfl (fun ls hl => ?_)
    refine lv_iinc (v := 2) (lv' := [(3, .int 2), (2, .int z_5), (0, .int x0), (1, .int 3)]) hx hb dX13_spotAt_17 hl (k := 1) rfl (by decide) (by decide) rfl (fun ls hl => ?_)
    refine lv_goto (tgt := 4) hx hb dX13_spotAt_20 (by decide) ?_
    refine lv_iload_n hx hb dX13_spotAt_4 rfl (lv_at hl 0 rfl) ?_
    refine lv_iload_n hx hb dX13_spotAt_5 rfl (lv_at hl 3 rfl) ?_
    refine lv_icmp_ge (tgt := 23) hx hb dX13_spotAt_6 (by decide) (fun c9 => absurd c9 (by decide)) (fun _ => ?_)
    refine lv_iload_n hx hb dX13_spotAt_9 rfl (lv_at hl 1 rfl) ?_
    refine lv_iload_n hx hb dX13_spotAt_10 rfl (lv_at hl 2 rfl) ?_
    refine lv_iload_n hx hb dX13_spotAt_11 rfl (lv_at hl 0 rfl) ?_
    refine lv_ishr hx hb dX13_spotAt_12 ?_
    refine lv_iconst (v := 1) hx hb dX13_spotAt_13 (by decide) ?_
    refine lv_iand hx hb dX13_spotAt_14 ?_
    refine lv_iadd hx hb dX13_spotAt_15 ?_
    refine lv_topi (fun z_6 ez_6 => ?_)
    refine lv_istore_n (lv' := [(2, .int z_6), (3, .int 2), (0, .int x0), (1, .int 3)]) hx hb dX13_spotAt_16 rfl hl (by decide) rfl (fun ls hl => ?_)
    refine lv_iinc (v := 3) (lv' := [(3, .int 3), (2, .int z_6), (0, .int x0), (1, .int 3)]) hx hb dX13_spotAt_17 hl (k := 1) rfl (by decide) (by decide) rfl (fun ls hl => ?_)
    refine lv_goto (tgt := 4) hx hb dX13_spotAt_20 (by decide) ?_
    refine lv_iload_n hx hb dX13_spotAt_4 rfl (lv_at hl 0 rfl) ?_
    refine lv_iload_n hx hb dX13_spotAt_5 rfl (lv_at hl 3 rfl) ?_
    refine lv_icmp_ge (tgt := 23) hx hb dX13_spotAt_6 (by decide) (fun _ => ?_) (fun c9 => absurd c9 (by decide))
    refine lv_iload_n hx hb dX13_spotAt_23 rfl (lv_at hl 1 rfl) ?_
    exact W.iret hx hb hr (fun t ht hW => ⟨_, rfl, (by subst_vars; exact spot_3 hp0), ht⟩) (fun _ h => by cases h) dX13_spotAt_24
  · refine lv_iconst (v := 0) hx hb dX13_spotAt_0 (by decide) ?_
    refine lv_istore_n (lv' := [(2, .int 0), (0, .int x0), (1, .int 4)]) hx hb dX13_spotAt_1 rfl hl (by decide) rfl (fun ls hl => ?_)
    refine lv_iconst (v := 0) hx hb dX13_spotAt_2 (by decide) ?_
    refine lv_istore_n (lv' := [(3, .int 0), (2, .int 0), (0, .int x0), (1, .int 4)]) hx hb dX13_spotAt_3 rfl hl (by decide) rfl (fun ls hl => ?_)
    refine lv_iload_n hx hb dX13_spotAt_4 rfl (lv_at hl 0 rfl) ?_
    refine lv_iload_n hx hb dX13_spotAt_5 rfl (lv_at hl 3 rfl) ?_
    refine lv_icmp_ge (tgt := 23) hx hb dX13_spotAt_6 (by decide) (fun c9 => absurd c9 (by decide)) (fun _ => ?_)
    refine lv_iload_n hx hb dX13_spotAt_9 rfl (lv_at hl 1 rfl) ?_
    refine lv_iload_n hx hb dX13_spotAt_10 rfl (lv_at hl 2 rfl) ?_
    refine lv_iload_n hx hb dX13_spotAt_11 rfl (lv_at hl 0 rfl) ?_
    refine lv_ishr hx hb dX13_spotAt_12 ?_
    refine lv_iconst (v := 1) hx hb dX13_spotAt_13 (by decide) ?_
    refine lv_iand hx hb dX13_spotAt_14 ?_
    refine lv_iadd hx hb dX13_spotAt_15 ?_
    refine lv_topi (fun z_7 ez_7 => ?_)
    refine lv_istore_n (lv' := [(2, .int z_7), (3, .int 0), (0, .int x0), (1, .int 4)]) hx hb dX13_spotAt_16 rfl hl (by decide) rfl (fun ls hl => ?_)
    refine lv_iinc (v := 1) (lv' := [(3, .int 1), (2, .int z_7), (0, .int x0), (1, .int 4)]) hx hb dX13_spotAt_17 hl (k := 1) rfl (by decide) (by decide) rfl (fun ls hl => ?_)
    refine lv_goto (tgt := 4) hx hb dX13_spotAt_20 (by decide) ?_
    refine lv_iload_n hx hb dX13_spotAt_4 rfl (lv_at hl 0 rfl) ?_
    refine lv_iload_n hx hb dX13_spotAt_5 rfl (lv_at hl 3 rfl) ?_
    refine lv_icmp_ge (tgt := 23) hx hb dX13_spotAt_6 (by decide) (fun c9 => absurd c9 (by decide)) (fun _ => ?_)
    refine lv_iload_n hx hb dX13_spotAt_9 rfl (lv_at hl 1 rfl) ?_
    refine lv_iload_n hx hb dX13_spotAt_10 rfl (lv_at hl 2 rfl) ?_
    refine lv_iload_n hx hb dX13_spotAt_11 rfl (lv_at hl 0 rfl) ?_
    refine lv_ishr hx hb dX13_spotAt_12 ?_
    refine lv_iconst (v := 1) hx hb dX13_spotAt_13 (by decide) ?_
    refine lv_iand hx hb dX13_spotAt_14 ?_
    refine lv_iadd hx hb dX13_spotAt_15 ?_
    refine lv_topi (fun z_8 ez_8 => ?_)
    refine lv_istore_n (lv' := [(2, .int z_8), (3, .int 1), (0, .int x0), (1, .int 4)]) hx hb dX13_spotAt_16 rfl hl (by decide) rfl (fun ls hl => ?_)
    refine lv_iinc (v := 2) (lv' := [(3, .int 2), (2, .int z_8), (0, .int x0), (1, .int 4)]) hx hb dX13_spotAt_17 hl (k := 1) rfl (by decide) (by decide) rfl (fun ls hl => ?_)
    refine lv_goto (tgt := 4) hx hb dX13_spotAt_20 (by decide) ?_
    refine lv_iload_n hx hb dX13_spotAt_4 rfl (lv_at hl 0 rfl) ?_
    refine lv_iload_n hx hb dX13_spotAt_5 rfl (lv_at hl 3 rfl) ?_
    refine lv_icmp_ge (tgt := 23) hx hb dX13_spotAt_6 (by decide) (fun c9 => absurd c9 (by decide)) (fun _ => ?_)
    refine lv_iload_n hx hb dX13_spotAt_9 rfl (lv_at hl 1 rfl) ?_
    refine lv_iload_n hx hb dX13_spotAt_10 rfl (lv_at hl 2 rfl) ?_
    refine lv_iload_n hx hb dX13_spotAt_11 rfl (lv_at hl 0 rfl) ?_
    refine lv_ishr hx hb dX13_spotAt_12 ?_
    refine lv_iconst (v := 1) hx hb dX13_spotAt_13 (by decide) ?_
    refine lv_iand hx hb dX13_spotAt_14 ?_
    refine lv_iadd hx hb dX13_spotAt_15 ?_
    refine lv_topi (fun z_9 ez_9 => ?_)
    refine lv_istore_n (lv' := [(2, .int z_9), (3, .int 2), (0, .int x0), (1, .int 4)]) hx hb dX13_spotAt_16 rfl hl (by decide) rfl (fun ls hl => ?_)
    refine lv_iinc (v := 3) (lv' := [(3, .int 3), (2, .int z_9), (0, .int x0), (1, .int 4)]) hx hb dX13_spotAt_17 hl (k := 1) rfl (by decide) (by decide) rfl (fun ls hl => ?_)
    refine lv_goto (tgt := 4) hx hb dX13_spotAt_20 (by decide) ?_
    refine lv_iload_n hx hb dX13_spotAt_4 rfl (lv_at hl 0 rfl) ?_
    refine lv_iload_n hx hb dX13_spotAt_5 rfl (lv_at hl 3 rfl) ?_
    refine lv_icmp_ge (tgt := 23) hx hb dX13_spotAt_6 (by decide) (fun c9 => absurd c9 (by decide)) (fun _ => ?_)
    refine lv_iload_n hx hb dX13_spotAt_9 rfl (lv_at hl 1 rfl) ?_
    refine lv_iload_n hx hb dX13_spotAt_10 rfl (lv_at hl 2 rfl) ?_
    refine lv_iload_n hx hb dX13_spotAt_11 rfl (lv_at hl 0 rfl) ?_
    refine lv_ishr hx hb dX13_spotAt_12 ?_
    refine lv_iconst (v := 1) hx hb dX13_spotAt_13 (by decide) ?_
    refine lv_iand hx hb dX13_spotAt_14 ?_
    refine lv_iadd hx hb dX13_spotAt_15 ?_
    refine lv_topi (fun z_10 ez_10 => ?_)
    refine lv_istore_n (lv' := [(2, .int z_10), (3, .int 3), (0, .int x0), (1, .int 4)]) hx hb dX13_spotAt_16 rfl hl (by decide) rfl (fun ls hl => ?_)
    refine lv_iinc (v := 4) (lv' := [(3, .int 4), (2, .int z_10), (0, .int x0), (1, .int 4)]) hx hb dX13_spotAt_17 hl (k := 1) rfl (by decide) (by decide) rfl (fun ls hl => ?_)
    refine lv_goto (tgt := 4) hx hb dX13_spotAt_20 (by decide) ?_
    refine lv_iload_n hx hb dX13_spotAt_4 rfl (lv_at hl 0 rfl) ?_
    refine lv_iload_n hx hb dX13_spotAt_5 rfl (lv_at hl 3 rfl) ?_
    refine lv_icmp_ge (tgt := 23) hx hb dX13_spotAt_6 (by decide) (fun _ => ?_) (fun c9 => absurd c9 (by decide))
    refine lv_iload_n hx hb dX13_spotAt_23 rfl (lv_at hl 1 rfl) ?_
    exact W.iret hx hb hr (fun t ht hW => ⟨_, rfl, (by subst_vars; exact spot_4 hp0), ht⟩) (fun _ h => by cases h) dX13_spotAt_24
  · refine lv_iconst (v := 0) hx hb dX13_spotAt_0 (by decide) ?_
    refine lv_istore_n (lv' := [(2, .int 0), (0, .int x0), (1, .int 5)]) hx hb dX13_spotAt_1 rfl hl (by decide) rfl (fun ls hl => ?_)
    refine lv_iconst (v := 0) hx hb dX13_spotAt_2 (by decide) ?_
    refine lv_istore_n (lv' := [(3, .int 0), (2, .int 0), (0, .int x0), (1, .int 5)]) hx hb dX13_spotAt_3 rfl hl (by decide) rfl (fun ls hl => ?_)
    refine lv_iload_n hx hb dX13_spotAt_4 rfl (lv_at hl 0 rfl) ?_
    refine lv_iload_n hx hb dX13_spotAt_5 rfl (lv_at hl 3 rfl) ?_
    refine lv_icmp_ge (tgt := 23) hx hb dX13_spotAt_6 (by decide) (fun c9 => absurd c9 (by decide)) (fun _ => ?_)
    refine lv_iload_n hx hb dX13_spotAt_9 rfl (lv_at hl 1 rfl) ?_
    refine lv_iload_n hx hb dX13_spotAt_10 rfl (lv_at hl 2 rfl) ?_
    refine lv_iload_n hx hb dX13_spotAt_11 rfl (lv_at hl 0 rfl) ?_
    refine lv_ishr hx hb dX13_spotAt_12 ?_
    refine lv_iconst (v := 1) hx hb dX13_spotAt_13 (by decide) ?_
    refine lv_iand hx hb dX13_spotAt_14 ?_
    refine lv_iadd hx hb dX13_spotAt_15 ?_
    refine lv_topi (fun z_11 ez_11 => ?_)
    refine lv_istore_n (lv' := [(2, .int z_11), (3, .int 0), (0, .int x0), (1, .int 5)]) hx hb dX13_spotAt_16 rfl hl (by decide) rfl (fun ls hl => ?_)
    refine lv_iinc (v := 1) (lv' := [(3, .int 1), (2, .int z_11), (0, .int x0), (1, .int 5)]) hx hb dX13_spotAt_17 hl (k := 1) rfl (by decide) (by decide) rfl (fun ls hl => ?_)
    refine lv_goto (tgt := 4) hx hb dX13_spotAt_20 (by decide) ?_
    refine lv_iload_n hx hb dX13_spotAt_4 rfl (lv_at hl 0 rfl) ?_
    refine lv_iload_n hx hb dX13_spotAt_5 rfl (lv_at hl 3 rfl) ?_
    refine lv_icmp_ge (tgt := 23) hx hb dX13_spotAt_6 (by decide) (fun c9 => absurd c9 (by decide)) (fun _ => ?_)
    refine lv_iload_n hx hb dX13_spotAt_9 rfl (lv_at hl 1 rfl) ?_
    refine lv_iload_n hx hb dX13_spotAt_10 rfl (lv_at hl 2 rfl) ?_
    refine lv_iload_n hx hb dX13_spotAt_11 rfl (lv_at hl 0 rfl) ?_
    refine lv_ishr hx hb dX13_spotAt_12 ?_
    refine lv_iconst (v := 1) hx hb dX13_spotAt_13 (by decide) ?_
    refine lv_iand hx hb dX13_spotAt_14 ?_
    refine lv_iadd hx hb dX13_spotAt_15 ?_
    refine lv_topi (fun z_12 ez_12 => ?_)
    refine lv_istore_n (lv' := [(2, .int z_12), (3, .int 1), (0, .int x0), (1, .int 5)]) hx hb dX13_spotAt_16 rfl hl (by decide) rfl (fun ls hl => ?_)
    refine lv_iinc (v := 2) (lv' := [(3, .int 2), (2, .int z_12), (0, .int x0), (1, .int 5)]) hx hb dX13_spotAt_17 hl (k := 1) rfl (by decide) (by decide) rfl (fun ls hl => ?_)
    refine lv_goto (tgt := 4) hx hb dX13_spotAt_20 (by decide) ?_
    refine lv_iload_n hx hb dX13_spotAt_4 rfl (lv_at hl 0 rfl) ?_
    refine lv_iload_n hx hb dX13_spotAt_5 rfl (lv_at hl 3 rfl) ?_
    refine lv_icmp_ge (tgt := 23) hx hb dX13_spotAt_6 (by decide) (fun c9 => absurd c9 (by decide)) (fun _ => ?_)
    refine lv_iload_n hx hb dX13_spotAt_9 rfl (lv_at hl 1 rfl) ?_
    refine lv_iload_n hx hb dX13_spotAt_10 rfl (lv_at hl 2 rfl) ?_
    refine lv_iload_n hx hb dX13_spotAt_11 rfl (lv_at hl 0 rfl) ?_
    refine lv_ishr hx hb dX13_spotAt_12 ?_
    refine lv_iconst (v := 1) hx hb dX13_spotAt_13 (by decide) ?_
    refine lv_iand hx hb dX13_spotAt_14 ?_
    refine lv_iadd hx hb dX13_spotAt_15 ?_
    refine lv_topi (fun z_13 ez_13 => ?_)
    refine lv_istore_n (lv' := [(2, .int z_13), (3, .int 2), (0, .int x0), (1, .int 5)]) hx hb dX13_spotAt_16 rfl hl (by decide) rfl (fun ls hl => ?_)
    refine lv_iinc (v := 3) (lv' := [(3, .int 3), (2, .int z_13), (0, .int x0), (1, .int 5)]) hx hb dX13_spotAt_17 hl (k := 1) rfl (by decide) (by decide) rfl (fun ls hl => ?_)
    refine lv_goto (tgt := 4) hx hb dX13_spotAt_20 (by decide) ?_
    refine lv_iload_n hx hb dX13_spotAt_4 rfl (lv_at hl 0 rfl) ?_
    refine lv_iload_n hx hb dX13_spotAt_5 rfl (lv_at hl 3 rfl) ?_
    refine lv_icmp_ge (tgt := 23) hx hb dX13_spotAt_6 (by decide) (fun c9 => absurd c9 (by decide)) (fun _ => ?_)
    refine lv_iload_n hx hb dX13_spotAt_9 rfl (lv_at hl 1 rfl) ?_
    refine lv_iload_n hx hb dX13_spotAt_10 rfl (lv_at hl 2 rfl) ?_
    refine lv_iload_n hx hb dX13_spotAt_11 rfl (lv_at hl 0 rfl) ?_
    refine lv_ishr hx hb dX13_spotAt_12 ?_
    refine lv_iconst (v := 1) hx hb dX13_spotAt_13 (by decide) ?_
    refine lv_iand hx hb dX13_spotAt_14 ?_
    refine lv_iadd hx hb dX13_spotAt_15 ?_
    refine lv_topi (fun z_14 ez_14 => ?_)
    refine lv_istore_n (lv' := [(2, .int z_14), (3, .int 3), (0, .int x0), (1, .int 5)]) hx hb dX13_spotAt_16 rfl hl (by decide) rfl (fun ls hl => ?_)
    refine lv_iinc (v := 4) (lv' := [(3, .int 4), (2, .int z_14), (0, .int x0), (1, .int 5)]) hx hb dX13_spotAt_17 hl (k := 1) rfl (by decide) (by decide) rfl (fun ls hl => ?_)
    refine lv_goto (tgt := 4) hx hb dX13_spotAt_20 (by decide) ?_
    refine lv_iload_n hx hb dX13_spotAt_4 rfl (lv_at hl 0 rfl) ?_
    refine lv_iload_n hx hb dX13_spotAt_5 rfl (lv_at hl 3 rfl) ?_
    refine lv_icmp_ge (tgt := 23) hx hb dX13_spotAt_6 (by decide) (fun c9 => absurd c9 (by decide)) (fun _ => ?_)
    refine lv_iload_n hx hb dX13_spotAt_9 rfl (lv_at hl 1 rfl) ?_
    refine lv_iload_n hx hb dX13_spotAt_10 rfl (lv_at hl 2 rfl) ?_
    refine lv_iload_n hx hb dX13_spotAt_11 rfl (lv_at hl 0 rfl) ?_
    refine lv_ishr hx hb dX13_spotAt_12 ?_
    refine lv_iconst (v := 1) hx hb dX13_spotAt_13 (by decide) ?_
    refine lv_iand hx hb dX13_spotAt_14 ?_
    refine lv_iadd hx hb dX13_spotAt_15 ?_
    refine lv_topi (fun z_15 ez_15 => ?_)
    refine lv_istore_n (lv' := [(2, .int z_15), (3, .int 4), (0, .int x0), (1, .int 5)]) hx hb dX13_spotAt_16 rfl hl (by decide) rfl (fun ls hl => ?_)
    refine lv_iinc (v := 5) (lv' := [(3, .int 5), (2, .int z_15), (0, .int x0), (1, .int 5)]) hx hb dX13_spotAt_17 hl (k := 1) rfl (by decide) (by decide) rfl (fun ls hl => ?_)
    refine lv_goto (tgt := 4) hx hb dX13_spotAt_20 (by decide) ?_
    refine lv_iload_n hx hb dX13_spotAt_4 rfl (lv_at hl 0 rfl) ?_
    refine lv_iload_n hx hb dX13_spotAt_5 rfl (lv_at hl 3 rfl) ?_
    refine lv_icmp_ge (tgt := 23) hx hb dX13_spotAt_6 (by decide) (fun _ => ?_) (fun c9 => absurd c9 (by decide))
    refine lv_iload_n hx hb dX13_spotAt_23 rfl (lv_at hl 1 rfl) ?_
    exact W.iret hx hb hr (fun t ht hW => ⟨_, rfl, (by subst_vars; exact spot_5 hp0), ht⟩) (fun _ h => by cases h) dX13_spotAt_24
  · refine lv_iconst (v := 0) hx hb dX13_spotAt_0 (by decide) ?_
    refine lv_istore_n (lv' := [(2, .int 0), (0, .int x0), (1, .int 6)]) hx hb dX13_spotAt_1 rfl hl (by decide) rfl (fun ls hl => ?_)
    refine lv_iconst (v := 0) hx hb dX13_spotAt_2 (by decide) ?_
    refine lv_istore_n (lv' := [(3, .int 0), (2, .int 0), (0, .int x0), (1, .int 6)]) hx hb dX13_spotAt_3 rfl hl (by decide) rfl (fun ls hl => ?_)
    refine lv_iload_n hx hb dX13_spotAt_4 rfl (lv_at hl 0 rfl) ?_
    refine lv_iload_n hx hb dX13_spotAt_5 rfl (lv_at hl 3 rfl) ?_
    refine lv_icmp_ge (tgt := 23) hx hb dX13_spotAt_6 (by decide) (fun c9 => absurd c9 (by decide)) (fun _ => ?_)
    refine lv_iload_n hx hb dX13_spotAt_9 rfl (lv_at hl 1 rfl) ?_
    refine lv_iload_n hx hb dX13_spotAt_10 rfl (lv_at hl 2 rfl) ?_
    refine lv_iload_n hx hb dX13_spotAt_11 rfl (lv_at hl 0 rfl) ?_
    refine lv_ishr hx hb dX13_spotAt_12 ?_
    refine lv_iconst (v := 1) hx hb dX13_spotAt_13 (by decide) ?_
    refine lv_iand hx hb dX13_spotAt_14 ?_
    refine lv_iadd hx hb dX13_spotAt_15 ?_
    refine lv_topi (fun z_16 ez_16 => ?_)
    refine lv_istore_n (lv' := [(2, .int z_16), (3, .int 0), (0, .int x0), (1, .int 6)]) hx hb dX13_spotAt_16 rfl hl (by decide) rfl (fun ls hl => ?_)
    refine lv_iinc (v := 1) (lv' := [(3, .int 1), (2, .int z_16), (0, .int x0), (1, .int 6)]) hx hb dX13_spotAt_17 hl (k := 1) rfl (by decide) (by decide) rfl (fun ls hl => ?_)
    refine lv_goto (tgt := 4) hx hb dX13_spotAt_20 (by decide) ?_
    refine lv_iload_n hx hb dX13_spotAt_4 rfl (lv_at hl 0 rfl) ?_
    refine lv_iload_n hx hb dX13_spotAt_5 rfl (lv_at hl 3 rfl) ?_
    refine lv_icmp_ge (tgt := 23) hx hb dX13_spotAt_6 (by decide) (fun c9 => absurd c9 (by decide)) (fun _ => ?_)
    refine lv_iload_n hx hb dX13_spotAt_9 rfl (lv_at hl 1 rfl) ?_
    refine lv_iload_n hx hb dX13_spotAt_10 rfl (lv_at hl 2 rfl) ?_
    refine lv_iload_n hx hb dX13_spotAt_11 rfl (lv_at hl 0 rfl) ?_
    refine lv_ishr hx hb dX13_spotAt_12 ?_
    refine lv_iconst (v := 1) hx hb dX13_spotAt_13 (by decide) ?_
    refine lv_iand hx hb dX13_spotAt_14 ?_
    refine lv_iadd hx hb dX13_spotAt_15 ?_
    refine lv_topi (fun z_17 ez_17 => ?_)
    refine lv_istore_n (lv' := [(2, .int z_17), (3, .int 1), (0, .int x0), (1, .int 6)]) hx hb dX13_spotAt_16 rfl hl (by decide) rfl (fun ls hl => ?_)
    refine lv_iinc (v := 2) (lv' := [(3, .int 2), (2, .int z_17), (0, .int x0), (1, .int 6)]) hx hb dX13_spotAt_17 hl (k := 1) rfl (by decide) (by decide) rfl (fun ls hl => ?_)
    refine lv_goto (tgt := 4) hx hb dX13_spotAt_20 (by decide) ?_
    refine lv_iload_n hx hb dX13_spotAt_4 rfl (lv_at hl 0 rfl) ?_
    refine lv_iload_n hx hb dX13_spotAt_5 rfl (lv_at hl 3 rfl) ?_
    refine lv_icmp_ge (tgt := 23) hx hb dX13_spotAt_6 (by decide) (fun c9 => absurd c9 (by decide)) (fun _ => ?_)
    refine lv_iload_n hx hb dX13_spotAt_9 rfl (lv_at hl 1 rfl) ?_
    refine lv_iload_n hx hb dX13_spotAt_10 rfl (lv_at hl 2 rfl) ?_
    refine lv_iload_n hx hb dX13_spotAt_11 rfl (lv_at hl 0 rfl) ?_
    refine lv_ishr hx hb dX13_spotAt_12 ?_
    refine lv_iconst (v := 1) hx hb dX13_spotAt_13 (by decide) ?_
    refine lv_iand hx hb dX13_spotAt_14 ?_
    refine lv_iadd hx hb dX13_spotAt_15 ?_
    refine lv_topi (fun z_18 ez_18 => ?_)
    refine lv_istore_n (lv' := [(2, .int z_18), (3, .int 2), (0, .int x0), (1, .int 6)]) hx hb dX13_spotAt_16 rfl hl (by decide) rfl (fun ls hl => ?_)
    refine lv_iinc (v := 3) (lv' := [(3, .int 3), (2, .int z_18), (0, .int x0), (1, .int 6)]) hx hb dX13_spotAt_17 hl (k := 1) rfl (by decide) (by decide) rfl (fun ls hl => ?_)
    refine lv_goto (tgt := 4) hx hb dX13_spotAt_20 (by decide) ?_
    refine lv_iload_n hx hb dX13_spotAt_4 rfl (lv_at hl 0 rfl) ?_
    refine lv_iload_n hx hb dX13_spotAt_5 rfl (lv_at hl 3 rfl) ?_
    refine lv_icmp_ge (tgt := 23) hx hb dX13_spotAt_6 (by decide) (fun c9 => absurd c9 (by decide)) (fun _ => ?_)
    refine lv_iload_n hx hb dX13_spotAt_9 rfl (lv_at hl 1 rfl) ?_
    refine lv_iload_n hx hb dX13_spotAt_10 rfl (lv_at hl 2 rfl) ?_
    refine lv_iload_n hx hb dX13_spotAt_11 rfl (lv_at hl 0 rfl) ?_
    refine lv_ishr hx hb dX13_spotAt_12 ?_
    refine lv_iconst (v := 1) hx hb dX13_spotAt_13 (by decide) ?_
    refine lv_iand hx hb dX13_spotAt_14 ?_
    refine lv_iadd hx hb dX13_spotAt_15 ?_
    refine lv_topi (fun z_19 ez_19 => ?_)
    refine lv_istore_n (lv' := [(2, .int z_19), (3, .int 3), (0, .int x0), (1, .int 6)]) hx hb dX13_spotAt_16 rfl hl (by decide) rfl (fun ls hl => ?_)
    refine lv_iinc (v := 4) (lv' := [(3, .int 4), (2, .int z_19), (0, .int x0), (1, .int 6)]) hx hb dX13_spotAt_17 hl (k := 1) rfl (by decide) (by decide) rfl (fun ls hl => ?_)
    refine lv_goto (tgt := 4) hx hb dX13_spotAt_20 (by decide) ?_
    refine lv_iload_n hx hb dX13_spotAt_4 rfl (lv_at hl 0 rfl) ?_
    refine lv_iload_n hx hb dX13_spotAt_5 rfl (lv_at hl 3 rfl) ?_
    refine lv_icmp_ge (tgt := 23) hx hb dX13_spotAt_6 (by decide) (fun c9 => absurd c9 (by decide)) (fun _ => ?_)
    refine lv_iload_n hx hb dX13_spotAt_9 rfl (lv_at hl 1 rfl) ?_
    refine lv_iload_n hx hb dX13_spotAt_10 rfl (lv_at hl 2 rfl) ?_
    refine lv_iload_n hx hb dX13_spotAt_11 rfl (lv_at hl 0 rfl) ?_
    refine lv_ishr hx hb dX13_spotAt_12 ?_
    refine lv_iconst (v := 1) hx hb dX13_spotAt_13 (by decide) ?_
    refine lv_iand hx hb dX13_spotAt_14 ?_
    refine lv_iadd hx hb dX13_spotAt_15 ?_
    refine lv_topi (fun z_20 ez_20 => ?_)
    refine lv_istore_n (lv' := [(2, .int z_20), (3, .int 4), (0, .int x0), (1, .int 6)]) hx hb dX13_spotAt_16 rfl hl (by decide) rfl (fun ls hl => ?_)
    refine lv_iinc (v := 5) (lv' := [(3, .int 5), (2, .int z_20), (0, .int x0), (1, .int 6)]) hx hb dX13_spotAt_17 hl (k := 1) rfl (by decide) (by decide) rfl (fun ls hl => ?_)
    refine lv_goto (tgt := 4) hx hb dX13_spotAt_20 (by decide) ?_
    refine lv_iload_n hx hb dX13_spotAt_4 rfl (lv_at hl 0 rfl) ?_
    refine lv_iload_n hx hb dX13_spotAt_5 rfl (lv_at hl 3 rfl) ?_
    refine lv_icmp_ge (tgt := 23) hx hb dX13_spotAt_6 (by decide) (fun c9 => absurd c9 (by decide)) (fun _ => ?_)
    refine lv_iload_n hx hb dX13_spotAt_9 rfl (lv_at hl 1 rfl) ?_
    refine lv_iload_n hx hb dX13_spotAt_10 rfl (lv_at hl 2 rfl) ?_
    refine lv_iload_n hx hb dX13_spotAt_11 rfl (lv_at hl 0 rfl) ?_
    refine lv_ishr hx hb dX13_spotAt_12 ?_
    refine lv_iconst (v := 1) hx hb dX13_spotAt_13 (by decide) ?_
    refine lv_iand hx hb dX13_spotAt_14 ?_
    refine lv_iadd hx hb dX13_spotAt_15 ?_
    refine lv_topi (fun z_21 ez_21 => ?_)
    refine lv_istore_n (lv' := [(2, .int z_21), (3, .int 5), (0, .int x0), (1, .int 6)]) hx hb dX13_spotAt_16 rfl hl (by decide) rfl (fun ls hl => ?_)
    refine lv_iinc (v := 6) (lv' := [(3, .int 6), (2, .int z_21), (0, .int x0), (1, .int 6)]) hx hb dX13_spotAt_17 hl (k := 1) rfl (by decide) (by decide) rfl (fun ls hl => ?_)
    refine lv_goto (tgt := 4) hx hb dX13_spotAt_20 (by decide) ?_
    refine lv_iload_n hx hb dX13_spotAt_4 rfl (lv_at hl 0 rfl) ?_
    refine lv_iload_n hx hb dX13_spotAt_5 rfl (lv_at hl 3 rfl) ?_
    refine lv_icmp_ge (tgt := 23) hx hb dX13_spotAt_6 (by decide) (fun _ => ?_) (fun c9 => absurd c9 (by decide))
    refine lv_iload_n hx hb dX13_spotAt_23 rfl (lv_at hl 1 rfl) ?_
    exact W.iret hx hb hr (fun t ht hW => ⟨_, rfl, (by subst_vars; exact spot_6 hp0), ht⟩) (fun _ h => by cases h) dX13_spotAt_24
theorem dX13_spotOf_0 : decode cX13_spotOf 0 = .ok (.iload_n 1, 1) := by decide +kernel
theorem dX13_spotOf_1 : decode cX13_spotOf 1 = .ok (.invokestatic 198, 3) := by decide +kernel
theorem dX13_spotOf_10 : decode cX13_spotOf 10 = .ok (.ldc2_w 186, 3) := by decide +kernel
theorem dX13_spotOf_13 : decode cX13_spotOf 13 = .ok (.invokestatic 175, 3) := by decide +kernel
theorem dX13_spotOf_16 : decode cX13_spotOf 16 = .ok (.ifCond .eq 11, 3) := by decide +kernel
theorem dX13_spotOf_19 : decode cX13_spotOf 19 = .ok (.iload_n 1, 1) := by decide +kernel
theorem dX13_spotOf_20 : decode cX13_spotOf 20 = .ok (.iload_n 2, 1) := by decide +kernel
theorem dX13_spotOf_21 : decode cX13_spotOf 21 = .ok (.invokestatic 202, 3) := by decide +kernel
theorem dX13_spotOf_24 : decode cX13_spotOf 24 = .ok (.goto 5, 3) := by decide +kernel
theorem dX13_spotOf_27 : decode cX13_spotOf 27 = .ok (.bipush (-2), 2) := by decide +kernel
theorem dX13_spotOf_29 : decode cX13_spotOf 29 = .ok (.ireturn, 1) := by decide +kernel
theorem dX13_spotOf_4 : decode cX13_spotOf 4 = .ok (.ifCond .eq 23, 3) := by decide +kernel
theorem dX13_spotOf_7 : decode cX13_spotOf 7 = .ok (.iload_n 2, 1) := by decide +kernel
theorem dX13_spotOf_8 : decode cX13_spotOf 8 = .ok (.i2l, 1) := by decide +kernel
theorem dX13_spotOf_9 : decode cX13_spotOf 9 = .ok (.lconst 0, 1) := by decide +kernel
set_option maxRecDepth 20000 in
theorem ggX13_spotOf_X13_in : GoodIn wsX13_spotOf wsX13_in := goodIn_r _ [9] (by decide +kernel) (by decide +kernel)
set_option maxRecDepth 20000 in
theorem ggX13_spotOf_X13_isPath : GoodIn wsX13_spotOf wsX13_isPath := goodIn_r _ [5, 6, 7, 8, 4, 9] (by decide +kernel) (by decide +kernel)
set_option maxRecDepth 20000 in
theorem ggX13_spotOf_X13_spotAt : GoodIn wsX13_spotOf wsX13_spotAt := goodIn_r _ [12] (by decide +kernel) (by decide +kernel)
set_option maxRecDepth 20000 in
theorem gX13_spotOf_X13_in : GoodIn wsX13_spotOf (va_wsS RX13 175 yX13_in wsX13_in) := goodIn_app (goodIn_of _ (by decide +kernel)) ggX13_spotOf_X13_in
set_option maxRecDepth 20000 in
theorem gX13_spotOf_X13_isPath : GoodIn wsX13_spotOf (va_wsS RX13 198 yX13_isPath wsX13_isPath) := goodIn_app (goodIn_of _ (by decide +kernel)) ggX13_spotOf_X13_isPath
set_option maxRecDepth 20000 in
theorem gX13_spotOf_X13_spotAt : GoodIn wsX13_spotOf (va_wsS RX13 202 yX13_spotAt wsX13_spotAt) := goodIn_app (goodIn_of _ (by decide +kernel)) ggX13_spotOf_X13_spotAt
set_option maxHeartbeats 4000000 in
set_option maxRecDepth 100000 in
theorem f_X13_spotOf (l : Launch) (D : va_G) (T : Nat → ClassId) (h0 : Nat) (fs0 : List Value) (x1 : Int32) (x2 : Int32)  : Met l yX13_spotOf wsX13_spotOf ({ frames := 2, cells := 0, slots := 0, locals := 45 }) (pR [.ref h0, .int x1, .int x2] D T [(h0, .inr (10, fs0))]) (vp_Si (fun r => r = sp_spotOf x1 x2)) 0 0 (fun _ => False) := by
  refine Met.ofW (cc := cX13_spotOf) (maxL := 3) (ret := (some .int)) (by decide) rfl ?_
  intro p e s m args below meth c s₁ B hml hv
  obtain ⟨rfl, hP, hE⟩ := hv
  have hx := B.exec
  have hb := B.bytes
  have hr := B.returns
  have hts := atoms_spec (ws := wsX13_spotOf) B.pre
  have hown : s.vm.findClass RX13 = some m.cls := findClass_of_methodNamed B.named
  have hlocks := B.notSynchronized
  have hP : va_P D vwCl [(h0, .inr (10, fs0))] s.heap := hP
  have hl := lv_entry ([.ref h0, .int x1, .int x2]) (n := 3) (Nat.le_of_ble_eq_true rfl)
  rw [lg_entry_eq]
  generalize (lg_sl ([.ref h0, .int x1, .int x2]) ++ List.replicate (3 - (lg_sl ([.ref h0, .int x1, .int x2])).length) Slot.unset).toArray = ls at hl ⊢
  have hl : lv_has ls 3 [(0, .ref h0), (1, .int x1), (2, .int x2)] := hl
  refine lv_iload_n hx hb dX13_spotOf_0 rfl (lv_at hl 1 rfl) ?_
  refine vp_callSi (W.runS (As := [.int x1]) (rest := []) ⟨hx, hb, hml, hown, hts⟩ (c_X13_isPath l D T x1) (va_cwS 1 hts gX13_spotOf_X13_isPath rfl rfl rfl (by decide +kernel) ⟨Nat.le_of_ble_eq_true rfl, Nat.le_of_ble_eq_true rfl⟩) (pR_S hP hE [] rfl) rfl rfl hl.1 rfl (lv_room (Nat.le_of_ble_eq_true rfl)) dX13_spotOf_1 ⟨Nat.le_of_ble_eq_true rfl, Nat.le_of_ble_eq_true rfl⟩) (fun r_1 hr_1 => ?_)
  rcases bool_post hr_1 with ⟨c_2, rfl⟩ | ⟨c_2, rfl⟩
  · refine lv_if_eq (tgt := 27) hx hb dX13_spotOf_4 (by decide) (fun c9 => absurd c9 (by decide)) (fun _ => ?_)
    refine lv_iload_n hx hb dX13_spotOf_7 rfl (lv_at hl 2 rfl) ?_
    refine lv_i2l hx hb dX13_spotOf_8 rfl ?_
    refine lv_lconst (v := 0) hx hb dX13_spotOf_9 (by decide) ?_
    refine lv_ldc2 (v := 6) hx hb hown (hts (.constantLong RX13 186 (6)) (List.mem_of_getElem? (i := 1) rfl)) dX13_spotOf_10 ?_
    refine vp_callSi (W.runS (As := [.long (x2.toInt64), .long 0, .long 6]) (rest := []) ⟨hx, hb, hml, hown, hts⟩ (c_X13_in l D T (x2.toInt64) 0 6 x2.toInt 0 6 ((Int32.toInt_toInt64 _).trans rfl) (by decide) (by decide)) (va_cwS 3 hts gX13_spotOf_X13_in rfl rfl rfl (by decide +kernel) ⟨Nat.le_of_ble_eq_true rfl, Nat.le_of_ble_eq_true rfl⟩) (pR_S hP hE [] rfl) rfl rfl hl.1 rfl (lv_room (Nat.le_of_ble_eq_true rfl)) dX13_spotOf_13 ⟨Nat.le_of_ble_eq_true rfl, Nat.le_of_ble_eq_true rfl⟩) (fun r_3 hr_3 => ?_)
    rcases bool_post hr_3 with ⟨c_4, rfl⟩ | ⟨c_4, rfl⟩
    · refine lv_if_eq (tgt := 27) hx hb dX13_spotOf_16 (by decide) (fun c9 => absurd c9 (by decide)) (fun _ => ?_)
      refine lv_iload_n hx hb dX13_spotOf_19 rfl (lv_at hl 1 rfl) ?_
      refine lv_iload_n hx hb dX13_spotOf_20 rfl (lv_at hl 2 rfl) ?_
      refine vp_callSi (W.runS (As := [.int x1, .int x2]) (rest := []) ⟨hx, hb, hml, hown, hts⟩ (c_X13_spotAt l D T x1 x2 (by omega) (by omega)) (va_cwS 2 hts gX13_spotOf_X13_spotAt rfl rfl rfl (by decide +kernel) ⟨Nat.le_of_ble_eq_true rfl, Nat.le_of_ble_eq_true rfl⟩) (pR_S hP hE [] rfl) rfl rfl hl.1 rfl (lv_room (Nat.le_of_ble_eq_true rfl)) dX13_spotOf_21 ⟨Nat.le_of_ble_eq_true rfl, Nat.le_of_ble_eq_true rfl⟩) (fun r_5 hr_5 => ?_)
      obtain rfl : r_5 = (sp_bits (x1 &&& ((1 <<< (x2 &&& 31)) - 1))) := hr_5
      refine lv_goto (tgt := 29) hx hb dX13_spotOf_24 (by decide) ?_
      exact W.iret hx hb hr (fun t ht hW => ⟨_, rfl, (by first | decide | (unfold sp_spotOf; (repeat' split) <;> first | rfl | (exfalso; omega))), ht⟩) (fun _ h => by cases h) dX13_spotOf_29
    · refine lv_if_eq (tgt := 27) hx hb dX13_spotOf_16 (by decide) (fun _ => ?_) (fun c9 => absurd c9 (by decide))
      refine lv_bipush (v := (-2)) hx hb dX13_spotOf_27 (by decide) ?_
      exact W.iret hx hb hr (fun t ht hW => ⟨_, rfl, (by first | decide | (unfold sp_spotOf; (repeat' split) <;> first | rfl | (exfalso; omega))), ht⟩) (fun _ h => by cases h) dX13_spotOf_29
  · refine lv_if_eq (tgt := 27) hx hb dX13_spotOf_4 (by decide) (fun _ => ?_) (fun c9 => absurd c9 (by decide))
    refine lv_bipush (v := (-2)) hx hb dX13_spotOf_27 (by decide) ?_
    exact W.iret hx hb hr (fun t ht hW => ⟨_, rfl, (by first | decide | (unfold sp_spotOf; (repeat' split) <;> first | rfl | (exfalso; omega))), ht⟩) (fun _ h => by cases h) dX13_spotOf_29
theorem dX13_divisor_0 : decode cX13_divisor 0 = .ok (.lload_n 0, 1) := by decide +kernel
theorem dX13_divisor_1 : decode cX13_divisor 1 = .ok (.lstore 4, 2) := by decide +kernel
theorem dX13_divisor_10 : decode cX13_divisor 10 = .ok (.ifCond .eq 21, 3) := by decide +kernel
theorem dX13_divisor_13 : decode cX13_divisor 13 = .ok (.lload 4, 2) := by decide +kernel
theorem dX13_divisor_15 : decode cX13_divisor 15 = .ok (.lload 6, 2) := by decide +kernel
theorem dX13_divisor_17 : decode cX13_divisor 17 = .ok (.lrem, 1) := by decide +kernel
theorem dX13_divisor_18 : decode cX13_divisor 18 = .ok (.lstore 8, 2) := by decide +kernel
theorem dX13_divisor_20 : decode cX13_divisor 20 = .ok (.lload 6, 2) := by decide +kernel
theorem dX13_divisor_22 : decode cX13_divisor 22 = .ok (.lstore 4, 2) := by decide +kernel
theorem dX13_divisor_24 : decode cX13_divisor 24 = .ok (.lload 8, 2) := by decide +kernel
theorem dX13_divisor_26 : decode cX13_divisor 26 = .ok (.lstore 6, 2) := by decide +kernel
theorem dX13_divisor_28 : decode cX13_divisor 28 = .ok (.goto (-22), 3) := by decide +kernel
theorem dX13_divisor_3 : decode cX13_divisor 3 = .ok (.lload_n 2, 1) := by decide +kernel
theorem dX13_divisor_31 : decode cX13_divisor 31 = .ok (.lload 4, 2) := by decide +kernel
theorem dX13_divisor_33 : decode cX13_divisor 33 = .ok (.lconst 0, 1) := by decide +kernel
theorem dX13_divisor_34 : decode cX13_divisor 34 = .ok (.lcmp, 1) := by decide +kernel
theorem dX13_divisor_35 : decode cX13_divisor 35 = .ok (.ifCond .ge 9, 3) := by decide +kernel
theorem dX13_divisor_38 : decode cX13_divisor 38 = .ok (.lload 4, 2) := by decide +kernel
theorem dX13_divisor_4 : decode cX13_divisor 4 = .ok (.lstore 6, 2) := by decide +kernel
theorem dX13_divisor_40 : decode cX13_divisor 40 = .ok (.lneg, 1) := by decide +kernel
theorem dX13_divisor_41 : decode cX13_divisor 41 = .ok (.goto 5, 3) := by decide +kernel
theorem dX13_divisor_44 : decode cX13_divisor 44 = .ok (.lload 4, 2) := by decide +kernel
theorem dX13_divisor_46 : decode cX13_divisor 46 = .ok (.lreturn, 1) := by decide +kernel
theorem dX13_divisor_6 : decode cX13_divisor 6 = .ok (.lload 6, 2) := by decide +kernel
theorem dX13_divisor_8 : decode cX13_divisor 8 = .ok (.lconst 0, 1) := by decide +kernel
theorem dX13_divisor_9 : decode cX13_divisor 9 = .ok (.lcmp, 1) := by decide +kernel
set_option maxHeartbeats 4000000 in
set_option maxRecDepth 100000 in
theorem c_X13_divisor (l : Launch) (D : va_G) (T : Nat → ClassId) (x0 : Int64) (x1 : Int64) (hq : x1.toInt ≠ 0) : Met l yX13_divisor wsX13_divisor ({ frames := 0, cells := 0, slots := 0, locals := 0 }) (pR [.long x0, .long x1] D T []) (vp_Sl (fun r => r.toInt ≠ 0)) 0 0 (fun _ => False) := by
  refine Met.ofW (cc := cX13_divisor) (maxL := 10) (ret := (some .long)) (by decide) rfl ?_
  intro p e s m args below meth c s₁ B hml hv
  obtain ⟨rfl, hP, hE⟩ := hv
  have hx := B.exec
  have hb := B.bytes
  have hr := B.returns
  have hts := atoms_spec (ws := wsX13_divisor) B.pre
  have hown : s.vm.findClass RX13 = some m.cls := findClass_of_methodNamed B.named
  have hlocks := B.notSynchronized
  have hP : va_P D vwCl [] s.heap := hP
  have hl := lv_entry ([.long x0, .long x1]) (n := 10) (Nat.le_of_ble_eq_true rfl)
  rw [lg_entry_eq]
  generalize (lg_sl ([.long x0, .long x1]) ++ List.replicate (10 - (lg_sl ([.long x0, .long x1])).length) Slot.unset).toArray = ls at hl ⊢
  have hl : lv_has ls 10 [(0, .long x0), (2, .long x1)] := hl
  refine lv_lload_n hx hb dX13_divisor_0 rfl (lv_at hl 0 rfl) ?_
  refine lv_lstore (lv' := [(4, .long x0), (0, .long x0), (2, .long x1)]) hx hb dX13_divisor_1 hl (by decide) rfl (fun ls hl => ?_)
  refine lv_lload_n hx hb dX13_divisor_3 rfl (lv_at hl 2 rfl) ?_
  refine lv_lstore (lv' := [(6, .long x1), (4, .long x0), (0, .long x0), (2, .long x1)]) hx hb dX13_divisor_4 hl (by decide) rfl (fun ls hl => ?_)
  refine loopR (σ := (Int64) × (Int64)) (fun x9 ls => lv_has ls 10 [(4, .long x9.1), (6, .long x9.2), (0, .long x0), (2, .long x1)] ∧ (x9.1.toInt ≠ 0 ∨ x9.2.toInt ≠ 0)) (fun x9 => x9.2.toInt.natAbs) (fun x9 ls hI ih => ?_) (x0, x1) ls ⟨lv_sub hl [1, 0, 2, 3] rfl, (by (try dsimp only); omega)⟩
  obtain ⟨yy, zz⟩ := x9
  obtain ⟨hl, hinv⟩ := hI
  have hl : lv_has ls 10 [(4, .long yy), (6, .long zz), (0, .long x0), (2, .long x1)] := hl
  have hinv : yy.toInt ≠ 0 ∨ zz.toInt ≠ 0 := hinv
  refine lv_lload hx hb dX13_divisor_6 (lv_at hl 1 rfl) ?_
  refine lv_lconst (v := 0) hx hb dX13_divisor_8 (by decide) ?_
  refine W.lcmp hx hb dX13_divisor_9 ?_
  refine lv_if_eq (tgt := 31) hx hb dX13_divisor_10 (by decide) (fun c_1 => ?_) (fun c_1 => ?_)
  · rw [lcmp_eq] at c_1
    try rw [tl_0] at c_1
    refine lv_lload hx hb dX13_divisor_31 (lv_at hl 0 rfl) ?_
    refine lv_lconst (v := 0) hx hb dX13_divisor_33 (by decide) ?_
    refine W.lcmp hx hb dX13_divisor_34 ?_
    refine lv_if_ge (tgt := 44) hx hb dX13_divisor_35 (by decide) (fun c_2 => ?_) (fun c_2 => ?_)
    · rw [lcmp_ge] at c_2
      try rw [tl_0] at c_2
      refine lv_lload hx hb dX13_divisor_44 (lv_at hl 0 rfl) ?_
      exact W.lret hx hb hr (fun t ht hW => ⟨_, rfl, (by first | exact neg_nz (by omega) | (show _ ≠ _; omega)), ht⟩) (fun _ h => by cases h) dX13_divisor_46
    · rw [lcmp_ge] at c_2
      try rw [tl_0] at c_2
      refine lv_lload hx hb dX13_divisor_38 (lv_at hl 0 rfl) ?_
      refine lv_lneg hx hb dX13_divisor_40 ?_
      refine lv_goto (tgt := 46) hx hb dX13_divisor_41 (by decide) ?_
      exact W.lret hx hb hr (fun t ht hW => ⟨_, rfl, (by first | exact neg_nz (by omega) | (show _ ≠ _; omega)), ht⟩) (fun _ h => by cases h) dX13_divisor_46
  · rw [lcmp_eq] at c_1
    try rw [tl_0] at c_1
    refine lv_lload hx hb dX13_divisor_13 (lv_at hl 0 rfl) ?_
    refine lv_lload hx hb dX13_divisor_15 (lv_at hl 1 rfl) ?_
    refine lv_lrem hx hb dX13_divisor_17 (nz64 (by omega)) ?_
    refine lv_topl (fun z_3 ez_3 => ?_)
    refine lv_lstore (lv' := [(8, .long z_3), (4, .long yy), (6, .long zz), (0, .long x0), (2, .long x1)]) hx hb dX13_divisor_18 hl (by decide) rfl (fun ls hl => ?_)
    refine lv_lload hx hb dX13_divisor_20 (lv_at hl 2 rfl) ?_
    refine lv_lstore (lv' := [(4, .long zz), (8, .long z_3), (6, .long zz), (0, .long x0), (2, .long x1)]) hx hb dX13_divisor_22 hl (by decide) rfl (fun ls hl => ?_)
    refine lv_lload hx hb dX13_divisor_24 (lv_at hl 1 rfl) ?_
    refine lv_lstore (lv' := [(6, .long z_3), (4, .long zz), (8, .long z_3), (0, .long x0), (2, .long x1)]) hx hb dX13_divisor_26 hl (by decide) rfl (fun ls hl => ?_)
    refine lv_goto (tgt := 6) hx hb dX13_divisor_28 (by decide) ?_
    exact ih (zz, z_3) ls ⟨lv_sub hl [1, 0, 3, 4] rfl, (by (try dsimp only); omega)⟩ (by subst_vars; exact rem_abs _ _ (by omega))
