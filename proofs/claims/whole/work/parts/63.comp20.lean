theorem itF_out {a : Nat} (h : ¬ (102 ≤ a ∧ a ≤ 119)) : itF a = 9 := by
  unfold itF
  rw [if_neg (by omega), if_neg (by omega), if_neg (by omega), if_neg (by omega), if_neg (by omega), if_neg (by omega), if_neg (by omega), if_neg (by omega)]
theorem ys_X4_itemOf : yX4_itemOf.cls ≠ "java/lang/invoke/MethodHandle" ∧ yX4_itemOf.cls ≠ "java/lang/invoke/VarHandle" ∧ (parseMethodDescriptor yX4_itemOf.desc).map (fun d => d.parameters.length) = some 1 := by decide +kernel
theorem yv_X4_itemOf : yX4_itemOf.cls = RX4 ∧ yX4_itemOf.cls ≠ "java/lang/invoke/MethodHandle" ∧ yX4_itemOf.cls ≠ "java/lang/invoke/VarHandle" ∧ (parseMethodDescriptor yX4_itemOf.desc).map (fun d => d.parameters.length) = some 1 := ⟨rfl, ys_X4_itemOf⟩
abbrev rmX4_itemOf : Room := { frames := 0, cells := 0, slots := 0, locals := 0 }
set_option maxHeartbeats 800000 in
set_option maxRecDepth 100000 in
theorem mX4_itemOf {G : sx_G} (l : Launch) {F : Nat → va_E} {n a : Nat}  (ha : a < 256) : sx_I G l yX4_itemOf wsX4_itemOf rmX4_itemOf [.int (nI (a))] (n) F (n) (fun r F1 => F = F1 ∧ (if itF a = 9 then -1 else nI (itF a)) = r) := by
  refine sx_enter (cc := cX4_itemOf) (maxL := 1) (ret := some .int) (own := RX4) (nm := "itemOf") (by decide) rfl rfl rfl (Nat.le_of_ble_eq_true rfl) ?_
  intro pp ee ss mm args below meth kc ls Q hQ X hs hP hl
  have hl : lv_has ls 1 [(0, .int (nI (a)))] := hl
  refine lv_iload_n X.1.1 X.1.2.1 dX4_itemOf_0 rfl (lv_at hl 0 rfl) ?_
  by_cases hr : 102 ≤ a ∧ a ≤ 119
  · rcases (show a = 102 ∨ a = 103 ∨ a = 104 ∨ a = 105 ∨ a = 106 ∨ a = 107 ∨ a = 108 ∨ a = 109 ∨ a = 110 ∨ a = 111 ∨ a = 112 ∨ a = 113 ∨ a = 114 ∨ a = 115 ∨ a = 116 ∨ a = 117 ∨ a = 118 ∨ a = 119 by omega) with rfl | rfl | rfl | rfl | rfl | rfl | rfl | rfl | rfl | rfl | rfl | rfl | rfl | rfl | rfl | rfl | rfl | rfl
    · refine lv_tableIn (off := 95) (tgt := 96) X.1.1 X.1.2.1 dX4_itemOf_1 (by decide) (by decide) (by decide) (by decide) ?_
      refine lv_bipush (v := nI 6) X.1.1 X.1.2.1 dX4_itemOf_96 (by decide) ?_
      rw [hQ]
      exact sx_iret X rfl hs rfl hP dX4_itemOf_98 (⟨rfl, rfl⟩)
    · refine lv_tableIn (off := 93) (tgt := 94) X.1.1 X.1.2.1 dX4_itemOf_1 (by decide) (by decide) (by decide) (by decide) ?_
      refine lv_iconst (v := nI 5) X.1.1 X.1.2.1 dX4_itemOf_94 (by decide) ?_
      rw [hQ]
      exact sx_iret X rfl hs rfl hP dX4_itemOf_95 (⟨rfl, rfl⟩)
    · refine lv_tableIn (off := 106) (tgt := 107) X.1.1 X.1.2.1 dX4_itemOf_1 (by decide) (by decide) (by decide) (by decide) ?_
      refine lv_iconst (v := (-1)) X.1.1 X.1.2.1 dX4_itemOf_107 (by decide) ?_
      rw [hQ]
      exact sx_iret X rfl hs rfl hP dX4_itemOf_108 (⟨rfl, rfl⟩)
    · refine lv_tableIn (off := 106) (tgt := 107) X.1.1 X.1.2.1 dX4_itemOf_1 (by decide) (by decide) (by decide) (by decide) ?_
      refine lv_iconst (v := (-1)) X.1.1 X.1.2.1 dX4_itemOf_107 (by decide) ?_
      rw [hQ]
      exact sx_iret X rfl hs rfl hP dX4_itemOf_108 (⟨rfl, rfl⟩)
    · refine lv_tableIn (off := 98) (tgt := 99) X.1.1 X.1.2.1 dX4_itemOf_1 (by decide) (by decide) (by decide) (by decide) ?_
      refine lv_bipush (v := nI 7) X.1.1 X.1.2.1 dX4_itemOf_99 (by decide) ?_
      rw [hQ]
      exact sx_iret X rfl hs rfl hP dX4_itemOf_101 (⟨rfl, rfl⟩)
    · refine lv_tableIn (off := 106) (tgt := 107) X.1.1 X.1.2.1 dX4_itemOf_1 (by decide) (by decide) (by decide) (by decide) ?_
      refine lv_iconst (v := (-1)) X.1.1 X.1.2.1 dX4_itemOf_107 (by decide) ?_
      rw [hQ]
      exact sx_iret X rfl hs rfl hP dX4_itemOf_108 (⟨rfl, rfl⟩)
    · refine lv_tableIn (off := 101) (tgt := 102) X.1.1 X.1.2.1 dX4_itemOf_1 (by decide) (by decide) (by decide) (by decide) ?_
      refine lv_iconst (v := nI 2) X.1.1 X.1.2.1 dX4_itemOf_102 (by decide) ?_
      rw [hQ]
      exact sx_iret X rfl hs rfl hP dX4_itemOf_103 (⟨rfl, rfl⟩)
    · refine lv_tableIn (off := 106) (tgt := 107) X.1.1 X.1.2.1 dX4_itemOf_1 (by decide) (by decide) (by decide) (by decide) ?_
      refine lv_iconst (v := (-1)) X.1.1 X.1.2.1 dX4_itemOf_107 (by decide) ?_
      rw [hQ]
      exact sx_iret X rfl hs rfl hP dX4_itemOf_108 (⟨rfl, rfl⟩)
    · refine lv_tableIn (off := 106) (tgt := 107) X.1.1 X.1.2.1 dX4_itemOf_1 (by decide) (by decide) (by decide) (by decide) ?_
      refine lv_iconst (v := (-1)) X.1.1 X.1.2.1 dX4_itemOf_107 (by decide) ?_
      rw [hQ]
      exact sx_iret X rfl hs rfl hP dX4_itemOf_108 (⟨rfl, rfl⟩)
    · refine lv_tableIn (off := 106) (tgt := 107) X.1.1 X.1.2.1 dX4_itemOf_1 (by decide) (by decide) (by decide) (by decide) ?_
      refine lv_iconst (v := (-1)) X.1.1 X.1.2.1 dX4_itemOf_107 (by decide) ?_
      rw [hQ]
      exact sx_iret X rfl hs rfl hP dX4_itemOf_108 (⟨rfl, rfl⟩)
    · refine lv_tableIn (off := 91) (tgt := 92) X.1.1 X.1.2.1 dX4_itemOf_1 (by decide) (by decide) (by decide) (by decide) ?_
      refine lv_iconst (v := nI 4) X.1.1 X.1.2.1 dX4_itemOf_92 (by decide) ?_
      rw [hQ]
      exact sx_iret X rfl hs rfl hP dX4_itemOf_93 (⟨rfl, rfl⟩)
    · refine lv_tableIn (off := 106) (tgt := 107) X.1.1 X.1.2.1 dX4_itemOf_1 (by decide) (by decide) (by decide) (by decide) ?_
      refine lv_iconst (v := (-1)) X.1.1 X.1.2.1 dX4_itemOf_107 (by decide) ?_
      rw [hQ]
      exact sx_iret X rfl hs rfl hP dX4_itemOf_108 (⟨rfl, rfl⟩)
    · refine lv_tableIn (off := 87) (tgt := 88) X.1.1 X.1.2.1 dX4_itemOf_1 (by decide) (by decide) (by decide) (by decide) ?_
      refine lv_iconst (v := nI 0) X.1.1 X.1.2.1 dX4_itemOf_88 (by decide) ?_
      rw [hQ]
      exact sx_iret X rfl hs rfl hP dX4_itemOf_89 (⟨rfl, rfl⟩)
    · refine lv_tableIn (off := 106) (tgt := 107) X.1.1 X.1.2.1 dX4_itemOf_1 (by decide) (by decide) (by decide) (by decide) ?_
      refine lv_iconst (v := (-1)) X.1.1 X.1.2.1 dX4_itemOf_107 (by decide) ?_
      rw [hQ]
      exact sx_iret X rfl hs rfl hP dX4_itemOf_108 (⟨rfl, rfl⟩)
    · refine lv_tableIn (off := 103) (tgt := 104) X.1.1 X.1.2.1 dX4_itemOf_1 (by decide) (by decide) (by decide) (by decide) ?_
      refine lv_bipush (v := nI 8) X.1.1 X.1.2.1 dX4_itemOf_104 (by decide) ?_
      rw [hQ]
      exact sx_iret X rfl hs rfl hP dX4_itemOf_106 (⟨rfl, rfl⟩)
    · refine lv_tableIn (off := 106) (tgt := 107) X.1.1 X.1.2.1 dX4_itemOf_1 (by decide) (by decide) (by decide) (by decide) ?_
      refine lv_iconst (v := (-1)) X.1.1 X.1.2.1 dX4_itemOf_107 (by decide) ?_
      rw [hQ]
      exact sx_iret X rfl hs rfl hP dX4_itemOf_108 (⟨rfl, rfl⟩)
    · refine lv_tableIn (off := 106) (tgt := 107) X.1.1 X.1.2.1 dX4_itemOf_1 (by decide) (by decide) (by decide) (by decide) ?_
      refine lv_iconst (v := (-1)) X.1.1 X.1.2.1 dX4_itemOf_107 (by decide) ?_
      rw [hQ]
      exact sx_iret X rfl hs rfl hP dX4_itemOf_108 (⟨rfl, rfl⟩)
    · refine lv_tableIn (off := 89) (tgt := 90) X.1.1 X.1.2.1 dX4_itemOf_1 (by decide) (by decide) (by decide) (by decide) ?_
      refine lv_iconst (v := nI 1) X.1.1 X.1.2.1 dX4_itemOf_90 (by decide) ?_
      rw [hQ]
      exact sx_iret X rfl hs rfl hP dX4_itemOf_91 (⟨rfl, rfl⟩)
  · refine lv_tableOut (tgt := 107) X.1.1 X.1.2.1 dX4_itemOf_1 (by rw [nI_toInt (by omega)]; omega) (by decide) ?_
    refine lv_iconst (v := (-1)) X.1.1 X.1.2.1 dX4_itemOf_107 (by decide) ?_
    rw [hQ]
    exact sx_iret X rfl hs rfl hP dX4_itemOf_108 (⟨rfl, by rw [if_pos (itF_out hr)]⟩)
