theorem wPD {D : va_G} {cl : List vw_C} {w' : va_W} {A : Nat → Prop} {H : Heap} (w : va_W) (hP : va_P D cl w' H) (hD : va_D A w') (e : w' = w) : va_P D cl w H ∧ va_D A w := by
  subst e
  exact ⟨hP, hD⟩
theorem fm_some {ws : va_W} : ∀ (is : List Nat), (∀ i ∈ is, i < ws.length) → is.map (fun i => ws[i]?) = (is.filterMap (fun i => ws[i]?)).map some
  | [], _ => rfl
  | i :: t, h => by
    have hi : ws[i]? = some (ws[i]'(h i List.mem_cons_self)) := List.getElem?_eq_getElem _
    have ih := fm_some t (fun j hj => h j (List.mem_cons_of_mem _ hj))
    rw [List.map_cons, List.filterMap_cons, hi]
    show some _ :: _ = some _ :: _
    rw [ih]
theorem va_joinN {A0 : Nat → Prop} {D : va_G} {cl : List vw_C} {ws wc w1 : va_W} {H H1 : Heap} (w : va_W) (hP : va_P D cl ws H) (hD : va_D A0 ws) (isC isR : List Nat) (n : Nat) (hl : ws.length = n) (hC : isC.map (fun i => ws[i]?) = wc.map some) (hw : isR.filterMap (fun i => ws[i]?) ++ w1 = w) (hb : (va_nd isR && isR.all (fun i => Nat.blt i n && !isC.contains i)) = true)
    (hk : ∀ q : Nat, q < H.size → ¬ va_A wc H.size q → H1[q]? = H[q]?) (hF : ∀ q, va_A wc H.size q → A0 q) (hP1 : va_P D cl w1 H1) (hD1 : va_D (va_A wc H.size) w1) : va_P D cl w H1 ∧ va_D A0 w := by
  subst hw
  subst hl
  rw [Bool.and_eq_true, List.all_eq_true] at hb
  refine va_join hP hD isC isR hC (fm_some isR (fun i hi => ?_)) hb.1 (fun i hi hc => ?_) hk hF hP1 hD1
  · have h := hb.2 i hi
    rw [Bool.and_eq_true] at h
    exact Nat.le_of_ble_eq_true h.1
  · have h := hb.2 i hi
    rw [Bool.and_eq_true, List.contains_iff_mem.mpr hc] at h
    exact absurd h.2 (by decide)
theorem hs_J9_floorDiv_f86c9 : yJ9_floorDiv_f86c9.cls ≠ "java/lang/invoke/MethodHandle" ∧ yJ9_floorDiv_f86c9.cls ≠ "java/lang/invoke/VarHandle" ∧ (parseMethodDescriptor yJ9_floorDiv_f86c9.desc).map (fun d => d.parameters.length) = some 2 := by decide +kernel
theorem hs_X12_isSpot : yX12_isSpot.cls ≠ "java/lang/invoke/MethodHandle" ∧ yX12_isSpot.cls ≠ "java/lang/invoke/VarHandle" ∧ (parseMethodDescriptor yX12_isSpot.desc).map (fun d => d.parameters.length) = some 2 := by decide +kernel
theorem hs_X12_within : yX12_within.cls ≠ "java/lang/invoke/MethodHandle" ∧ yX12_within.cls ≠ "java/lang/invoke/VarHandle" ∧ (parseMethodDescriptor yX12_within.desc).map (fun d => d.parameters.length) = some 3 := by decide +kernel
theorem hv_X11_isMuch : yX11_isMuch.cls = RX11 ∧ yX11_isMuch.cls ≠ "java/lang/invoke/MethodHandle" ∧ yX11_isMuch.cls ≠ "java/lang/invoke/VarHandle" ∧ (parseMethodDescriptor yX11_isMuch.desc).map (fun d => d.parameters.length) = some 1 := by decide +kernel
theorem hv_X11_settle : yX11_settle.cls = RX11 ∧ yX11_settle.cls ≠ "java/lang/invoke/MethodHandle" ∧ yX11_settle.cls ≠ "java/lang/invoke/VarHandle" ∧ (parseMethodDescriptor yX11_settle.desc).map (fun d => d.parameters.length) = some 3 := by decide +kernel
theorem hv_X12_placeFault : yX12_placeFault.cls = RX12 ∧ yX12_placeFault.cls ≠ "java/lang/invoke/MethodHandle" ∧ yX12_placeFault.cls ≠ "java/lang/invoke/VarHandle" ∧ (parseMethodDescriptor yX12_placeFault.desc).map (fun d => d.parameters.length) = some 2 := by decide +kernel
theorem hv_X2_append : yX2_append.cls = RX2 ∧ yX2_append.cls ≠ "java/lang/invoke/MethodHandle" ∧ yX2_append.cls ≠ "java/lang/invoke/VarHandle" ∧ (parseMethodDescriptor yX2_append.desc).map (fun d => d.parameters.length) = some 4 := by decide +kernel
theorem hv_X2_has : yX2_has.cls = RX2 ∧ yX2_has.cls ≠ "java/lang/invoke/MethodHandle" ∧ yX2_has.cls ≠ "java/lang/invoke/VarHandle" ∧ (parseMethodDescriptor yX2_has.desc).map (fun d => d.parameters.length) = some 1 := by decide +kernel
