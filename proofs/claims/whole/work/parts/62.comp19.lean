theorem ys_X6_lotBehind : yX6_lotBehind.cls ≠ "java/lang/invoke/MethodHandle" ∧ yX6_lotBehind.cls ≠ "java/lang/invoke/VarHandle" ∧ (parseMethodDescriptor yX6_lotBehind.desc).map (fun d => d.parameters.length) = some 1 := by decide +kernel
theorem yv_X6_lotBehind : yX6_lotBehind.cls = RX6 ∧ yX6_lotBehind.cls ≠ "java/lang/invoke/MethodHandle" ∧ yX6_lotBehind.cls ≠ "java/lang/invoke/VarHandle" ∧ (parseMethodDescriptor yX6_lotBehind.desc).map (fun d => d.parameters.length) = some 1 := ⟨rfl, ys_X6_lotBehind⟩
theorem lk_X6_lotBehind_constantLong_RX6_230_16807 : (.constantLong RX6 230 (16807) : Cond) ∈ wsX6_lotBehind := List.mem_cons_of_mem _ (List.mem_of_getElem? (i := 0) rfl)
theorem lk_X6_lotBehind_constantLong_RX6_232_2147483647 : (.constantLong RX6 232 (2147483647) : Cond) ∈ wsX6_lotBehind := List.mem_cons_of_mem _ (List.mem_of_getElem? (i := 1) rfl)
abbrev rmX6_lotBehind : Room := { frames := 0, cells := 0, slots := 0, locals := 0 }
set_option maxHeartbeats 800000 in
set_option maxRecDepth 100000 in
theorem mX6_lotBehind {G : sx_G} (l : Launch) {F : Nat → va_E} {n k : Nat}  (hk : k < 2147483647) : sx_J G l yX6_lotBehind wsX6_lotBehind rmX6_lotBehind [.long (lN k)] (n) F (n) (fun r F1 => F = F1 ∧ lN (lot k) = r) := by
  refine sx_enter (cc := cX6_lotBehind) (maxL := 2) (ret := some .long) (own := RX6) (nm := "lotBehind") (by decide) rfl rfl rfl (Nat.le_of_ble_eq_true rfl) ?_
  intro pp ee ss mm args below meth kc ls Q hQ X hs hP hl
  have hl : lv_has ls 2 [(0, .long (lN k))] := hl
  refine lv_lload_n X.1.1 X.1.2.1 dX6_lotBehind_0 rfl (lv_at hl 0 rfl) ?_
  refine lv_ldc2 (v := 16807) X.1.1 X.1.2.1 X.1.2.2.2.1 (X.1.2.2.2.2 _ lk_X6_lotBehind_constantLong_RX6_230_16807) dX6_lotBehind_1 ?_
  refine lv_lmul X.1.1 X.1.2.1 dX6_lotBehind_4 ?_
  refine lv_ldc2 (v := 2147483647) X.1.1 X.1.2.1 X.1.2.2.2.1 (X.1.2.2.2.2 _ lk_X6_lotBehind_constantLong_RX6_232_2147483647) dX6_lotBehind_5 ?_
  refine lv_lrem X.1.1 X.1.2.1 dX6_lotBehind_8 (by decide) ?_
  rw [hQ]
  exact sx_lret X rfl hs rfl hP dX6_lotBehind_9 (⟨rfl, (lotL hk).symm⟩)
