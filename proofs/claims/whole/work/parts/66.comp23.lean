theorem inS_iff {x : Int32} {K : Nat} (hK : K < 2 ^ 30) : inS x K ↔ ¬ x < nI 1 ∧ x ≤ nI K := by
  constructor
  · rintro ⟨j, h1, h2, rfl⟩
    exact ⟨Int32.not_lt.mpr ((nI_leI (by decide) (by omega)).mpr h1), (nI_leI (by omega) (by omega)).mpr h2⟩
  · rintro ⟨h1, h2⟩
    have h0 : ¬ x < 0 := Int32.not_lt.mpr (Int32.le_trans (by decide : (0 : Int32) ≤ nI 1) (Int32.not_lt.mp h1))
    obtain ⟨j, hj, rfl⟩ := nI_of h0
    exact ⟨j, (nI_leI (by decide) (by omega)).mp (Int32.not_lt.mp h1), (nI_leI (by omega) (by omega)).mp h2, rfl⟩
theorem draw4 {k : Nat} (h : k < 2147483647) : (lN k - lN k / 4 * 4).toInt32 = nI (k % 4) := by
  have e : (nI 4).toInt64 = 4 := by decide
  have q := drawL (d := 4) h (by decide) (by decide)
  rw [e] at q
  exact q
theorem draw8 {k : Nat} (h : k < 2147483647) : (lN k - lN k / 8 * 8).toInt32 = nI (k % 8) := by
  have e : (nI 8).toInt64 = 8 := by decide
  have q := drawL (d := 8) h (by decide) (by decide)
  rw [e] at q
  exact q
theorem ev_neg {w : Nat → Int32} {n t s x : Nat} {v : Int32} (ht : t < 4) (hs : s < 8) (hx : x < boundF s) (hn : n ≤ 160) (h91 : w 91 = nI n) (h : evF w n (nI t) (nI s) (nI x) = (v, w)) : v < 0 := by
  rcases evF_cases (w := w) ht hs hx hn with ⟨u, hu, e⟩ | ⟨h1, -, -, -, e⟩
  · rw [e] at h
    rw [← (Prod.mk.inj h).1]; exact hu
  · rw [e] at h
    have q := congrFun (Prod.mk.inj h).2 91
    rw [comeF_91 ht, h91] at q
    exact absurd ((nI_eq (by omega) (by omega)).mp q) (by omega)
theorem ys_X6_drift : yX6_drift.cls ≠ "java/lang/invoke/MethodHandle" ∧ yX6_drift.cls ≠ "java/lang/invoke/VarHandle" ∧ (parseMethodDescriptor yX6_drift.desc).map (fun d => d.parameters.length) = some 2 := by decide +kernel
theorem yv_X6_drift : yX6_drift.cls = RX6 ∧ yX6_drift.cls ≠ "java/lang/invoke/MethodHandle" ∧ yX6_drift.cls ≠ "java/lang/invoke/VarHandle" ∧ (parseMethodDescriptor yX6_drift.desc).map (fun d => d.parameters.length) = some 2 := ⟨rfl, ys_X6_drift⟩
theorem lk_X6_drift_constant_RX6_44_1000000002 : (.constant RX6 44 (-1000000002) : Cond) ∈ wsX6_drift := List.mem_cons_of_mem _ (List.mem_append_left _ (List.mem_append_left _ (List.mem_append_left _ (List.mem_append_left _ (List.mem_append_left _ (List.mem_append_left _ (List.mem_of_getElem? (i := 1) rfl)))))))
theorem lk_X6_drift_constant_RX6_89_999999 : (.constant RX6 89 (999999) : Cond) ∈ wsX6_drift := List.mem_cons_of_mem _ (List.mem_append_left _ (List.mem_append_left _ (List.mem_append_left _ (List.mem_append_left _ (List.mem_append_left _ (List.mem_append_left _ (List.mem_of_getElem? (i := 0) rfl)))))))
theorem in_X6_drift_X6 : ∀ w ∈ wsX60, w ∈ wsX6_drift := fun _ h => List.mem_cons_of_mem _ (List.mem_append_left _ (List.mem_append_left _ (List.mem_append_left _ (List.mem_append_left _ (List.mem_append_right _ (h))))))
theorem lk_X6_drift_fieldLink_RX6_10_RaceWatch_world_LRaceWatch_World : (.fieldLink RX6 10 "RaceWatch" "world" "LRaceWatch$World;" : Cond) ∈ wsX6_drift := List.mem_cons_of_mem _ (List.mem_append_left _ (List.mem_append_left _ (List.mem_append_left _ (List.mem_append_left _ (List.mem_append_left _ (List.mem_append_left _ (List.mem_of_getElem? (i := 2) rfl)))))))
theorem in_X6_drift_X5 : ∀ w ∈ wsX50, w ∈ wsX6_drift := fun _ h => List.mem_cons_of_mem _ (List.mem_append_left _ (List.mem_append_left _ (List.mem_append_left _ (List.mem_append_right _ (h)))))
theorem lk_X6_drift_fieldLink_RX6_31_RaceWatch_World_log_LRaceWatch_Log : (.fieldLink RX6 31 "RaceWatch$World" "log" "LRaceWatch$Log;" : Cond) ∈ wsX6_drift := List.mem_cons_of_mem _ (List.mem_append_left _ (List.mem_append_left _ (List.mem_append_left _ (List.mem_append_left _ (List.mem_append_left _ (List.mem_append_left _ (List.mem_of_getElem? (i := 3) rfl)))))))
theorem in_X6_drift_X3 : ∀ w ∈ wsX30, w ∈ wsX6_drift := fun _ h => List.mem_cons_of_mem _ (List.mem_append_left _ (List.mem_append_left _ (List.mem_append_right _ (h))))
theorem lk_X6_drift_fieldLink_RX6_35_RaceWatch_Log_count_I : (.fieldLink RX6 35 "RaceWatch$Log" "count" "I" : Cond) ∈ wsX6_drift := List.mem_cons_of_mem _ (List.mem_append_left _ (List.mem_append_left _ (List.mem_append_left _ (List.mem_append_left _ (List.mem_append_left _ (List.mem_append_left _ (List.mem_of_getElem? (i := 4) rfl)))))))
theorem lk_X6_drift_constantLong_RX6_94_4 : (.constantLong RX6 94 (4) : Cond) ∈ wsX6_drift := List.mem_cons_of_mem _ (List.mem_append_left _ (List.mem_append_left _ (List.mem_append_left _ (List.mem_append_left _ (List.mem_append_left _ (List.mem_append_left _ (List.mem_of_getElem? (i := 5) rfl)))))))
theorem lk_X6_drift_constantLong_RX6_96_8 : (.constantLong RX6 96 (8) : Cond) ∈ wsX6_drift := List.mem_cons_of_mem _ (List.mem_append_left _ (List.mem_append_left _ (List.mem_append_left _ (List.mem_append_left _ (List.mem_append_left _ (List.mem_append_left _ (List.mem_of_getElem? (i := 6) rfl)))))))
abbrev rmX6_drift : Room := { frames := 5, cells := 0, slots := 0, locals := 134 }
set_option maxHeartbeats 800000 in
set_option maxRecDepth 100000 in
theorem mX6_drift {G : sx_G} (l : Launch) {F : Nat → va_E} {w : Nat → Int32} {M : Nat} {x y : Int32}  (hW : WV G F w M 1) (hwf : WFw w M) (h0 : F (0) = ob 6 ([rf G 1, rf G 28, rf G 83, rf G 84])) : sx_I G l yX6_drift wsX6_drift rmX6_drift [rf G 0, .int (x), .int (y)] (97) F (97) (fun r F1 => (¬ (inS x 40 ∧ inS y 999999) ∧ F1 = F ∧ -1000000002 = r) ∨ ∃ m sd, 1 ≤ m ∧ m ≤ 40 ∧ 1 ≤ sd ∧ sd ≤ 999999 ∧ x = nI m ∧ y = nI sd ∧ (WV G F1 (drI (w, M, sd, 0) m).1 (drI (w, M, sd, 0) m).2.1 1 ∧ WFw (drI (w, M, sd, 0) m).1 (drI (w, M, sd, 0) m).2.1 ∧ (∀ j, (j = 0 ∨ 27 < j) → F1 j = F j) ∧ nI (drI (w, M, sd, 0) m).2.2.2 = r)) := by
  refine sx_enter (cc := cX6_drift) (maxL := 10) (ret := some .int) (own := RX6) (nm := "drift") (by decide) rfl rfl rfl (Nat.le_of_ble_eq_true rfl) ?_
  intro pp ee ss mm args below meth kc ls Q hQ X hs hP hl
  have hl : lv_has ls 10 [(0, rf G 0), (1, .int (x)), (2, .int (y))] := hl
  have hO : ∀ j, j = 0 ∨ 27 < j → F j = F j := fun _ _ => rfl
  have h1 := WV.obj hW
  have h19 := WV.log hW
  have hM := hwf.2.1
  refine lv_iload_n X.1.1 X.1.2.1 dX6_drift_0 rfl (lv_at hl 1 rfl) ?_
  refine lv_iconst (v := nI 1) X.1.1 X.1.2.1 dX6_drift_1 (by decide) ?_
  refine lv_icmp_lt X.1.1 X.1.2.1 (tgt := 22) dX6_drift_2 (by decide) (fun c2 => ?_) (fun c2 => ?_)
  · refine lv_ldc (v := -1000000002) X.1.1 X.1.2.1 X.1.2.2.2.1 (X.1.2.2.2.2 _ lk_X6_drift_constant_RX6_44_1000000002) dX6_drift_22 ?_
    rw [hQ]
    exact sx_iret X rfl hs rfl hP dX6_drift_24 (Or.inl ⟨fun q => ((inS_iff (by decide)).mp q.1).1 c2, rfl, rfl⟩)
  · refine lv_iload_n X.1.1 X.1.2.1 dX6_drift_5 rfl (lv_at hl 1 rfl) ?_
    refine lv_bipush (v := nI 40) X.1.1 X.1.2.1 dX6_drift_6 (by decide) ?_
    refine lv_icmp_gt X.1.1 X.1.2.1 (tgt := 22) dX6_drift_8 (by decide) (fun c8 => ?_) (fun c8 => ?_)
    · refine lv_ldc (v := -1000000002) X.1.1 X.1.2.1 X.1.2.2.2.1 (X.1.2.2.2.2 _ lk_X6_drift_constant_RX6_44_1000000002) dX6_drift_22 ?_
      rw [hQ]
      exact sx_iret X rfl hs rfl hP dX6_drift_24 (Or.inl ⟨fun q => Int32.not_le.mpr c8 ((inS_iff (by decide)).mp q.1).2, rfl, rfl⟩)
    · refine lv_iload_n X.1.1 X.1.2.1 dX6_drift_11 rfl (lv_at hl 2 rfl) ?_
      refine lv_iconst (v := nI 1) X.1.1 X.1.2.1 dX6_drift_12 (by decide) ?_
      refine lv_icmp_lt X.1.1 X.1.2.1 (tgt := 22) dX6_drift_13 (by decide) (fun c13 => ?_) (fun c13 => ?_)
      · refine lv_ldc (v := -1000000002) X.1.1 X.1.2.1 X.1.2.2.2.1 (X.1.2.2.2.2 _ lk_X6_drift_constant_RX6_44_1000000002) dX6_drift_22 ?_
        rw [hQ]
        exact sx_iret X rfl hs rfl hP dX6_drift_24 (Or.inl ⟨fun q => ((inS_iff (by decide)).mp q.2).1 c13, rfl, rfl⟩)
      · refine lv_iload_n X.1.1 X.1.2.1 dX6_drift_16 rfl (lv_at hl 2 rfl) ?_
        refine lv_ldc (v := 999999) X.1.1 X.1.2.1 X.1.2.2.2.1 (X.1.2.2.2.2 _ lk_X6_drift_constant_RX6_89_999999) dX6_drift_17 ?_
        refine lv_icmp_le X.1.1 X.1.2.1 (tgt := 25) dX6_drift_19 (by decide) (fun c19 => ?_) (fun c19 => ?_)
        · obtain ⟨m, hm1, hm2, rfl⟩ := (inS_iff (x := x) (K := 40) (by decide)).mpr ⟨c2, Int32.not_lt.mp c8⟩
          obtain ⟨sd, hd1, hd2, rfl⟩ := (inS_iff (x := y) (K := 999999) (by decide)).mpr ⟨c13, c19⟩
          refine lv_aload_n X.1.1 X.1.2.1 dX6_drift_25 rfl (lv_at hl 0 rfl) ?_
          refine sx_get X hP in_X6_drift_X6 h0 (by decide) rfl 0 (by decide) lk_X6_drift_fieldLink_RX6_10_RaceWatch_world_LRaceWatch_World rfl dX6_drift_26 ?_
          refine sx_get X hP in_X6_drift_X5 h1 (by decide) rfl 6 (by decide) lk_X6_drift_fieldLink_RX6_31_RaceWatch_World_log_LRaceWatch_Log rfl dX6_drift_29 ?_
          refine sx_get X hP in_X6_drift_X3 h19 (by decide) rfl 0 (by decide) lk_X6_drift_fieldLink_RX6_35_RaceWatch_Log_count_I rfl dX6_drift_32 ?_
          refine lv_istore_n (lv' := [(3, .int (nI (M))), (0, rf G 0), (1, .int (nI (m))), (2, .int (nI (sd)))]) X.1.1 X.1.2.1 dX6_drift_35 rfl hl (by decide) rfl (fun ls hl => ?_)
          refine lv_iload_n X.1.1 X.1.2.1 dX6_drift_36 rfl (lv_at hl 3 rfl) ?_
          refine lv_i2l (v := (nI (sd)).toInt64) X.1.1 X.1.2.1 dX6_drift_37 rfl ?_
          rw [nI_l (by omega)]
          refine lv_lstore (lv' := [(4, .long (lN sd)), (3, .int (nI (M))), (0, rf G 0), (1, .int (nI (m))), (2, .int (nI (sd)))]) X.1.1 X.1.2.1 dX6_drift_38 hl (by decide) rfl (fun ls hl => ?_)
          refine lv_iconst (v := nI 0) X.1.1 X.1.2.1 dX6_drift_40 (by decide) ?_
          refine lv_istore (lv' := [(6, .int (nI 0)), (4, .long (lN sd)), (3, .int (nI (M))), (0, rf G 0), (1, .int (nI (m))), (2, .int (nI (sd)))]) X.1.1 X.1.2.1 dX6_drift_41 hl (by decide) rfl (fun ls hl => ?_)
          have lo : ∀ (k_lo : Nat) (r : Nat → Int32) (nn : Nat) (kk : Nat) (a : Nat) (q : Nat) (Fv : Nat → va_E) (Hv : Heap) (lv : List Loc) (ls : Array Slot), (q + k_lo = m) → (drI (w, M, sd, 0) q = (r, nn, kk, a)) → (WV G Fv r nn 1) → (WFw r nn) → (nn = M + a) → (kk < 2147483647) → (Fv (0) = ob 6 ([rf G 1, rf G 28, rf G 83, rf G 84])) → (∀ j, j = 0 ∨ 27 < j → Fv j = F j) → sx_H G (97) Fv ss.heap Hv lv → lv_has ls 10 [(0, rf G 0), (1, .int (nI (m))), (2, .int (nI (sd))), (3, .int (nI (M))), (4, .long (lN kk)), (6, .int (nI (q)))] → W pp l ee rmX6_drift ss mm args below meth kc Hv lv 0 0 Q (F0 mm 43 ls []) := by
            intro k_lo
            induction k_lo with
            | zero =>
              intro r nn kk a q Fv Hv lv ls hk hI hWr hwr hnn hkk h0 hO hP hl
              have h1 := WV.obj hWr
              have h19 := WV.log hWr
              refine lv_iload X.1.1 X.1.2.1 dX6_drift_43 (lv_at hl 5 rfl) ?_
              refine lv_iload_n X.1.1 X.1.2.1 dX6_drift_45 rfl (lv_at hl 1 rfl) ?_
              refine sx_icmp_ge X (by omega) (by omega) (tgt := 133) dX6_drift_46 (by decide) (fun c46 => ?_) (fun c46 => absurd c46 (by omega))
              refine lv_aload_n X.1.1 X.1.2.1 dX6_drift_133 rfl (lv_at hl 0 rfl) ?_
              refine sx_get X hP in_X6_drift_X6 h0 (by decide) rfl 0 (by decide) lk_X6_drift_fieldLink_RX6_10_RaceWatch_world_LRaceWatch_World rfl dX6_drift_134 ?_
              refine sx_get X hP in_X6_drift_X5 h1 (by decide) rfl 6 (by decide) lk_X6_drift_fieldLink_RX6_31_RaceWatch_World_log_LRaceWatch_Log rfl dX6_drift_137 ?_
              refine sx_get X hP in_X6_drift_X3 h19 (by decide) rfl 0 (by decide) lk_X6_drift_fieldLink_RX6_35_RaceWatch_Log_count_I rfl dX6_drift_140 ?_
              refine lv_iload_n X.1.1 X.1.2.1 dX6_drift_143 rfl (lv_at hl 3 rfl) ?_
              refine sx_subN X ((nn - (M))) (by omega) (by omega) dX6_drift_144 ?_
              rw [hQ]
              exact sx_iret X rfl hs rfl hP dX6_drift_145 (Or.inr ⟨m, sd, hm1, hm2, hd1, hd2, rfl, rfl, by rw [← show q = m by omega, hI]; exact ⟨hWr, hwr, hO, congrArg nI (show a = nn - M by omega)⟩⟩)
            | succ k_lo ih_lo =>
              intro r nn kk a q Fv Hv lv ls hk hI hWr hwr hnn hkk h0 hO hP hl
              have h1 := WV.obj hWr
              refine lv_iload X.1.1 X.1.2.1 dX6_drift_43 (lv_at hl 5 rfl) ?_
              refine lv_iload_n X.1.1 X.1.2.1 dX6_drift_45 rfl (lv_at hl 1 rfl) ?_
              refine sx_icmp_ge X (by omega) (by omega) (tgt := 133) dX6_drift_46 (by decide) (fun c46 => absurd c46 (by omega)) (fun c46 => ?_)
              refine lv_lload X.1.1 X.1.2.1 dX6_drift_49 (lv_at hl 4 rfl) ?_
              refine sx_csJ (As := [.long (lN kk)]) (rest := []) X (mX6_lotBehind l (k := kk) hkk) gX6_drift_X6_lotBehind rfl ys_X6_lotBehind ⟨Nat.le_of_ble_eq_true rfl, Nat.le_of_ble_eq_true rfl⟩ hl.1 rfl (Nat.le_of_ble_eq_true rfl) dX6_drift_51 ⟨Nat.le_of_ble_eq_true rfl, Nat.le_of_ble_eq_true rfl⟩ hs rfl hP (fun r1 F1 H1 l1 hp hP => ?_)
              obtain ⟨rfl, rfl⟩ := hp
              refine lv_lstore (lv' := [(4, .long (lN (lot kk))), (0, rf G 0), (1, .int (nI (m))), (2, .int (nI (sd))), (3, .int (nI (M))), (6, .int (nI (q)))]) X.1.1 X.1.2.1 dX6_drift_54 hl (by decide) rfl (fun ls hl => ?_)
              refine lv_lload X.1.1 X.1.2.1 dX6_drift_56 (lv_at hl 0 rfl) ?_
              refine lv_ldc2 (v := 4) X.1.1 X.1.2.1 X.1.2.2.2.1 (X.1.2.2.2.2 _ lk_X6_drift_constantLong_RX6_94_4) dX6_drift_58 ?_
              refine lv_lrem X.1.1 X.1.2.1 dX6_drift_61 (by decide) ?_
              refine lv_l2i (v := ((lN (lot kk)) - (lN (lot kk)) / (4) * (4)).toInt32) X.1.1 X.1.2.1 dX6_drift_62 rfl ?_
              rw [draw4 (lot_lt _)]
              refine lv_istore (lv' := [(7, .int (nI ((lot kk % 4)))), (4, .long (lN (lot kk))), (0, rf G 0), (1, .int (nI (m))), (2, .int (nI (sd))), (3, .int (nI (M))), (6, .int (nI (q)))]) X.1.1 X.1.2.1 dX6_drift_63 hl (by decide) rfl (fun ls hl => ?_)
              refine lv_lload X.1.1 X.1.2.1 dX6_drift_65 (lv_at hl 1 rfl) ?_
              refine sx_csJ (As := [.long (lN (lot kk))]) (rest := []) X (mX6_lotBehind l (k := lot kk) (lot_lt _)) gX6_drift_X6_lotBehind rfl ys_X6_lotBehind ⟨Nat.le_of_ble_eq_true rfl, Nat.le_of_ble_eq_true rfl⟩ hl.1 rfl (Nat.le_of_ble_eq_true rfl) dX6_drift_67 ⟨Nat.le_of_ble_eq_true rfl, Nat.le_of_ble_eq_true rfl⟩ hs rfl hP (fun r2 F2 H2 l2 hp hP => ?_)
              obtain ⟨rfl, rfl⟩ := hp
              refine lv_lstore (lv' := [(4, .long (lN (lot (lot kk)))), (7, .int (nI ((lot kk % 4)))), (0, rf G 0), (1, .int (nI (m))), (2, .int (nI (sd))), (3, .int (nI (M))), (6, .int (nI (q)))]) X.1.1 X.1.2.1 dX6_drift_70 hl (by decide) rfl (fun ls hl => ?_)
              refine lv_lload X.1.1 X.1.2.1 dX6_drift_72 (lv_at hl 0 rfl) ?_
              refine lv_ldc2 (v := 8) X.1.1 X.1.2.1 X.1.2.2.2.1 (X.1.2.2.2.2 _ lk_X6_drift_constantLong_RX6_96_8) dX6_drift_74 ?_
              refine lv_lrem X.1.1 X.1.2.1 dX6_drift_77 (by decide) ?_
              refine lv_l2i (v := ((lN (lot (lot kk))) - (lN (lot (lot kk))) / (8) * (8)).toInt32) X.1.1 X.1.2.1 dX6_drift_78 rfl ?_
              rw [draw8 (lot_lt _)]
              refine lv_istore (lv' := [(8, .int (nI ((lot (lot kk) % 8)))), (4, .long (lN (lot (lot kk)))), (7, .int (nI ((lot kk % 4)))), (0, rf G 0), (1, .int (nI (m))), (2, .int (nI (sd))), (3, .int (nI (M))), (6, .int (nI (q)))]) X.1.1 X.1.2.1 dX6_drift_79 hl (by decide) rfl (fun ls hl => ?_)
              refine lv_lload X.1.1 X.1.2.1 dX6_drift_81 (lv_at hl 1 rfl) ?_
              refine sx_csJ (As := [.long (lN (lot (lot kk)))]) (rest := []) X (mX6_lotBehind l (k := lot (lot kk)) (lot_lt _)) gX6_drift_X6_lotBehind rfl ys_X6_lotBehind ⟨Nat.le_of_ble_eq_true rfl, Nat.le_of_ble_eq_true rfl⟩ hl.1 rfl (Nat.le_of_ble_eq_true rfl) dX6_drift_83 ⟨Nat.le_of_ble_eq_true rfl, Nat.le_of_ble_eq_true rfl⟩ hs rfl hP (fun r3 F3 H3 l3 hp hP => ?_)
              obtain ⟨rfl, rfl⟩ := hp
              refine lv_lstore (lv' := [(4, .long (lN (lot (lot (lot kk))))), (8, .int (nI ((lot (lot kk) % 8)))), (7, .int (nI ((lot kk % 4)))), (0, rf G 0), (1, .int (nI (m))), (2, .int (nI (sd))), (3, .int (nI (M))), (6, .int (nI (q)))]) X.1.1 X.1.2.1 dX6_drift_86 hl (by decide) rfl (fun ls hl => ?_)
              refine lv_lload X.1.1 X.1.2.1 dX6_drift_88 (lv_at hl 0 rfl) ?_
              refine lv_iload X.1.1 X.1.2.1 dX6_drift_90 (lv_at hl 1 rfl) ?_
              refine sx_csI (As := [.int (nI ((lot (lot kk) % 8)))]) (rest := .long (lN (lot (lot (lot kk)))) :: []) X (mX6_boundOf l (s := (lot (lot kk) % 8)) (by omega)) gX6_drift_X6_boundOf rfl ys_X6_boundOf ⟨Nat.le_of_ble_eq_true rfl, Nat.le_of_ble_eq_true rfl⟩ hl.1 rfl (Nat.le_of_ble_eq_true rfl) dX6_drift_92 ⟨Nat.le_of_ble_eq_true rfl, Nat.le_of_ble_eq_true rfl⟩ hs rfl hP (fun r4 F4 H4 l4 hp hP => ?_)
              obtain ⟨rfl, rfl⟩ := hp
              refine lv_i2l (v := (nI (boundF ((lot (lot kk) % 8)))).toInt64) X.1.1 X.1.2.1 dX6_drift_95 rfl ?_
              refine lv_lrem X.1.1 X.1.2.1 dX6_drift_96 (sx_dne (boundF_pos _) (Nat.lt_of_le_of_lt (boundF_le _) (by decide))) ?_
              refine lv_l2i (v := ((lN (lot (lot (lot kk)))) - (lN (lot (lot (lot kk)))) / ((nI (boundF ((lot (lot kk) % 8)))).toInt64) * ((nI (boundF ((lot (lot kk) % 8)))).toInt64)).toInt32) X.1.1 X.1.2.1 dX6_drift_97 rfl ?_
              rw [drawL (lot_lt _) (boundF_pos _) (Nat.lt_of_le_of_lt (boundF_le _) (by decide))]
              refine lv_istore (lv' := [(9, .int (nI ((lot (lot (lot kk)) % boundF (lot (lot kk) % 8))))), (4, .long (lN (lot (lot (lot kk))))), (8, .int (nI ((lot (lot kk) % 8)))), (7, .int (nI ((lot kk % 4)))), (0, rf G 0), (1, .int (nI (m))), (2, .int (nI (sd))), (3, .int (nI (M))), (6, .int (nI (q)))]) X.1.1 X.1.2.1 dX6_drift_98 hl (by decide) rfl (fun ls hl => ?_)
              refine lv_aload_n X.1.1 X.1.2.1 dX6_drift_100 rfl (lv_at hl 4 rfl) ?_
              refine lv_iload X.1.1 X.1.2.1 dX6_drift_101 (lv_at hl 3 rfl) ?_
              refine lv_iload X.1.1 X.1.2.1 dX6_drift_103 (lv_at hl 2 rfl) ?_
              refine lv_iload X.1.1 X.1.2.1 dX6_drift_105 (lv_at hl 0 rfl) ?_
              refine sx_cvI (As := [.int (nI ((lot kk % 4))), .int (nI ((lot (lot kk) % 8))), .int (nI ((lot (lot (lot kk)) % boundF (lot (lot kk) % 8))))]) (rest := []) X (mX6_refusalOf l (w := r) (M := nn) hWr hwr h0) gX6_drift_X6_refusalOf rfl yv_X6_refusalOf ⟨Nat.le_of_ble_eq_true rfl, Nat.le_of_ble_eq_true rfl⟩ h0 (by decide) rfl rfl hl.1 rfl (Nat.le_of_ble_eq_true rfl) dX6_drift_107 ⟨Nat.le_of_ble_eq_true rfl, Nat.le_of_ble_eq_true rfl⟩ hs rfl hP (fun r5 F5 H5 l5 hp hP => ?_)
              obtain ⟨rfl, ⟨hne, hev⟩ | ⟨rfl, t, s, x, ht, hs8, hx, hxt, e1, e2, e3, hn1, hev⟩⟩ := hp
              · have hv := ev_neg (Nat.mod_lt _ (by decide)) (Nat.mod_lt _ (by decide)) (Nat.mod_lt _ (boundF_pos _)) hwr.2.1 hwr.1 hev
                refine lv_if_ne X.1.1 X.1.2.1 (tgt := 127) dX6_drift_110 (by decide) (fun c110 => ?_) (fun c110 => ?_)
                · refine lv_iinc (v := (nI (1 + q))) (lv' := [(6, .int (nI (1 + q))), (9, .int (nI ((lot (lot (lot kk)) % boundF (lot (lot kk) % 8))))), (4, .long (lN (lot (lot (lot kk))))), (8, .int (nI ((lot (lot kk) % 8)))), (7, .int (nI ((lot kk % 4)))), (0, rf G 0), (1, .int (nI (m))), (2, .int (nI (sd))), (3, .int (nI (M)))]) X.1.1 X.1.2.1 dX6_drift_127 hl (k := 8) rfl (sx_inc1 (by omega)) (by decide) rfl (fun ls hl => ?_)
                  refine lv_goto (tgt := 43) X.1.1 X.1.2.1 dX6_drift_130 (by decide) ?_
                  exact ih_lo (r) (nn) (lot (lot (lot kk))) (a) (1 + q) _ _ _ _ (by omega) (by rw [drI_s, hI]; unfold drS; rw [cif_f (by rw [hev]; exact Int32.not_le.mpr hv)]) (hWr) (hwr) (hnn) (lot_lt _) h0 hO hP (lv_sub hl [5, 6, 7, 8, 2, 0] rfl)
                · exact absurd (c110.trans nI_0.symm) hne
              · have e1 := (nI_eq (by omega) (by omega)).mp e1
                subst e1
                have e2 := (nI_eq (by omega) (by omega)).mp e2
                subst e2
                have e3 := (nI_eq (Nat.lt_of_lt_of_le (Nat.mod_lt _ (boundF_pos _)) (Nat.le_trans (boundF_le _) (by decide))) (Nat.lt_of_lt_of_le hx (Nat.le_trans (boundF_le _) (by decide)))).mp e3
                subst e3
                refine sx_if_ne X (by decide) (tgt := 127) dX6_drift_110 (by decide) (fun h => absurd h (by decide)) (fun _ => ?_)
                refine lv_aload_n X.1.1 X.1.2.1 dX6_drift_113 rfl (lv_at hl 4 rfl) ?_
                refine sx_get X hP in_X6_drift_X6 h0 (by decide) rfl 0 (by decide) lk_X6_drift_fieldLink_RX6_10_RaceWatch_world_LRaceWatch_World rfl dX6_drift_114 ?_
                refine lv_iload X.1.1 X.1.2.1 dX6_drift_117 (lv_at hl 3 rfl) ?_
                refine lv_iload X.1.1 X.1.2.1 dX6_drift_119 (lv_at hl 2 rfl) ?_
                refine lv_iload X.1.1 X.1.2.1 dX6_drift_121 (lv_at hl 0 rfl) ?_
                refine sx_cvI (As := [.int (nI ((lot kk % 4))), .int (nI ((lot (lot kk) % 8))), .int (nI ((lot (lot (lot kk)) % boundF (lot (lot kk) % 8))))]) (rest := []) X (mX5_come l (w := r) (M := nn) (t := (lot kk % 4)) (s := (lot (lot kk) % 8)) (x := (lot (lot (lot kk)) % boundF (lot (lot kk) % 8))) hWr hwr hn1 ht hs8 hx hxt) gX6_drift_X5_come rfl yv_X5_come ⟨Nat.le_of_ble_eq_true rfl, Nat.le_of_ble_eq_true rfl⟩ h1 (by decide) rfl rfl hl.1 rfl (Nat.le_of_ble_eq_true rfl) dX6_drift_123 ⟨Nat.le_of_ble_eq_true rfl, Nat.le_of_ble_eq_true rfl⟩ hs rfl hP (fun r6 F6 H6 l6 hp hP => ?_)
                obtain ⟨hWr, o6, rfl⟩ := hp
                have h0 := (o6 0 (by decide)).trans h0
                have hO : ∀ j, j = 0 ∨ 27 < j → F6 j = F j := fun j hj => (o6 j hj).trans (hO j hj)
                refine lv_pop X.1.1 X.1.2.1 dX6_drift_126 rfl ?_
                refine lv_iinc (v := (nI (1 + q))) (lv' := [(6, .int (nI (1 + q))), (9, .int (nI ((lot (lot (lot kk)) % boundF (lot (lot kk) % 8))))), (4, .long (lN (lot (lot (lot kk))))), (8, .int (nI ((lot (lot kk) % 8)))), (7, .int (nI ((lot kk % 4)))), (0, rf G 0), (1, .int (nI (m))), (2, .int (nI (sd))), (3, .int (nI (M)))]) X.1.1 X.1.2.1 dX6_drift_127 hl (k := 8) rfl (sx_inc1 (by omega)) (by decide) rfl (fun ls hl => ?_)
                refine lv_goto (tgt := 43) X.1.1 X.1.2.1 dX6_drift_130 (by decide) ?_
                exact ih_lo (comeF r nn (lot kk % 4) (lot (lot kk) % 8) (lot (lot (lot kk)) % boundF (lot (lot kk) % 8))) (1 + nn) (lot (lot (lot kk))) (1 + a) (1 + q) _ _ _ _ (by omega) (by rw [drI_s, hI]; unfold drS; rw [cif_t (by rw [hev]; exact nI_pos' (by omega))]) (hWr) (WF_come hwr hn1 ht hs8 hx hxt) (by omega) (lot_lt _) h0 hO hP (lv_sub hl [5, 6, 7, 8, 2, 0] rfl)
          exact lo (m) (w) (M) (sd) (0) (0) _ _ _ _ (by omega) (rfl) (hW) (hwf) (rfl) (by omega) h0 hO hP (lv_sub hl [3, 4, 5, 2, 1, 0] rfl)
        · refine lv_ldc (v := -1000000002) X.1.1 X.1.2.1 X.1.2.2.2.1 (X.1.2.2.2.2 _ lk_X6_drift_constant_RX6_44_1000000002) dX6_drift_22 ?_
          rw [hQ]
          exact sx_iret X rfl hs rfl hP dX6_drift_24 (Or.inl ⟨fun q => c19 ((inS_iff (by decide)).mp q.2).2, rfl, rfl⟩)
/-- the BOOK, the latest entry first, against the reference's row, the oldest first -/
def BkV (en : Nat) (jo jl jp : Nat → Int32) : Prop := ∀ k, k < en → ∃ x h, x < 3 ∧ h < 2 ∧ jl k = nI x ∧ jp k = nI h ∧ jo (en - 1 - k) = nI (2 * x + h)
theorem Bk_0 {en i : Nat} {jo jl jp : Nat → Int32} (h : BkV en jo jl jp) (hi : i < en) : jo (en - 1 - i) / nI 2 = jl i ∧ jo (en - 1 - i) - jo (en - 1 - i) / nI 2 * nI 2 = jp i := by
  obtain ⟨x, b, hx, hb, e1, e2, e3⟩ := h i hi
  rw [e1, e2, e3]
  rcases (show x = 0 ∨ x = 1 ∨ x = 2 by omega) with rfl | rfl | rfl <;> rcases (show b = 0 ∨ b = 1 by omega) with rfl | rfl <;> exact ⟨by decide, by decide⟩
theorem Bk_enter {en x b : Nat} {jo jl jp : Nat → Int32} (h : BkV en jo jl jp) (hen : en ≤ 24) (hx : x < 3) (hb : b < 2) : BkV (jnE en) (jnR en jo (nI (2 * x + b))) (upd (va_cpy jl jl 0 1 23) 0 (nI x)) (upd (va_cpy jp jp 0 1 23) 0 (nI b)) := by
  intro k hk
  have hE : jnE en = if en = 24 then 24 else 1 + en := rfl
  by_cases k0 : k = 0
  · subst k0
    refine ⟨x, b, hx, hb, pk_us, pk_us, ?_⟩
    unfold jnR
    by_cases e : en = 24
    · rw [if_pos e] at hE ⊢
      rw [hE]; exact pk_us
    · rw [if_neg e] at hE ⊢
      rw [hE, show 1 + en - 1 - 0 = en by omega]; exact pk_us
  · have hk2 : k < 24 ∧ k - 1 < en := by
      by_cases e : en = 24
      · rw [if_pos e] at hE; omega
      · rw [if_neg e] at hE; omega
    obtain ⟨y, c, hy, hc, e1, e2, e3⟩ := h (k - 1) hk2.2
    refine ⟨y, c, hy, hc, ?_, ?_, ?_⟩
    · rw [pk_un k0, pk_cpy_in (by omega) (by omega), show 0 + (k - 1) = k - 1 by omega, e1]
    · rw [pk_un k0, pk_cpy_in (by omega) (by omega), show 0 + (k - 1) = k - 1 by omega, e2]
    · unfold jnR
      by_cases e : en = 24
      · rw [if_pos e] at hE ⊢
        rw [hE, pk_un (by omega)]
        unfold shF
        rw [if_pos (by omega), ← e3]
        congr 1
        omega
      · rw [if_neg e] at hE ⊢
        rw [hE, pk_un (by omega), ← e3]
        congr 1
        omega
theorem ys_X6_journal : yX6_journal.cls ≠ "java/lang/invoke/MethodHandle" ∧ yX6_journal.cls ≠ "java/lang/invoke/VarHandle" ∧ (parseMethodDescriptor yX6_journal.desc).map (fun d => d.parameters.length) = some 2 := by decide +kernel
theorem yv_X6_journal : yX6_journal.cls = RX6 ∧ yX6_journal.cls ≠ "java/lang/invoke/MethodHandle" ∧ yX6_journal.cls ≠ "java/lang/invoke/VarHandle" ∧ (parseMethodDescriptor yX6_journal.desc).map (fun d => d.parameters.length) = some 2 := ⟨rfl, ys_X6_journal⟩
theorem in_X6_journal_X6 : ∀ w ∈ wsX60, w ∈ wsX6_journal := fun _ h => List.mem_cons_of_mem _ (List.mem_append_left _ (List.mem_append_left _ (List.mem_append_right _ (h))))
theorem lk_X6_journal_fieldLink_RX6_27_RaceWatch_telling_LRaceWatch_Telling : (.fieldLink RX6 27 "RaceWatch" "telling" "LRaceWatch$Telling;" : Cond) ∈ wsX6_journal := List.mem_cons_of_mem _ (List.mem_append_left _ (List.mem_append_left _ (List.mem_append_left _ (List.mem_of_getElem? (i := 1) rfl))))
theorem in_X6_journal_X4 : ∀ w ∈ wsX40, w ∈ wsX6_journal := fun _ h => List.mem_cons_of_mem _ (List.mem_append_left _ (List.mem_append_right _ (h)))
theorem lk_X6_journal_fieldLink_RX6_117_RaceWatch_Telling_book_LRaceWatch_Book : (.fieldLink RX6 117 "RaceWatch$Telling" "book" "LRaceWatch$Book;" : Cond) ∈ wsX6_journal := List.mem_cons_of_mem _ (List.mem_append_left _ (List.mem_append_left _ (List.mem_append_left _ (List.mem_of_getElem? (i := 2) rfl))))
theorem in_X6_journal_X0 : ∀ w ∈ wsX00, w ∈ wsX6_journal := fun _ h => List.mem_cons_of_mem _ (List.mem_append_right _ (h))
theorem lk_X6_journal_fieldLink_RX6_121_RaceWatch_Book_count_I : (.fieldLink RX6 121 "RaceWatch$Book" "count" "I" : Cond) ∈ wsX6_journal := List.mem_cons_of_mem _ (List.mem_append_left _ (List.mem_append_left _ (List.mem_append_left _ (List.mem_of_getElem? (i := 3) rfl))))
theorem lk_X6_journal_fieldLink_RX6_156_RaceWatch_Book_opened_I : (.fieldLink RX6 156 "RaceWatch$Book" "opened" "[I" : Cond) ∈ wsX6_journal := List.mem_cons_of_mem _ (List.mem_append_left _ (List.mem_append_left _ (List.mem_append_left _ (List.mem_of_getElem? (i := 5) rfl))))
theorem lk_X6_journal_fieldLink_RX6_155_RaceWatch_Book_locks_I : (.fieldLink RX6 155 "RaceWatch$Book" "locks" "[I" : Cond) ∈ wsX6_journal := List.mem_cons_of_mem _ (List.mem_append_left _ (List.mem_append_left _ (List.mem_append_left _ (List.mem_of_getElem? (i := 4) rfl))))
theorem lk_X6_journal_constant_RX6_44_1000000002 : (.constant RX6 44 (-1000000002) : Cond) ∈ wsX6_journal := List.mem_cons_of_mem _ (List.mem_append_left _ (List.mem_append_left _ (List.mem_append_left _ (List.mem_of_getElem? (i := 0) rfl))))
abbrev rmX6_journal : Room := { frames := 1, cells := 0, slots := 0, locals := 21 }
set_option maxHeartbeats 800000 in
set_option maxRecDepth 100000 in
theorem mX6_journal {G : sx_G} (l : Launch) {F : Nat → va_E} {en : Nat} {x y : Int32} {jo jl jp : Nat → Int32} {q0 q1 q3 q4 q5 q6 q7 q8 q9 q10 : Value}  (hen : en ≤ 24) (hBk : BkV en jo jl jp) (h0 : F (0) = ob 6 ([rf G 1, rf G 28, rf G 83, rf G 84])) (h84 : F (84) = ob 4 ([q0, q1, rf G 85, q3, q4, q5, q6, q7, q8, q9, q10])) (h85 : F (85) = ob 0 ([.int (nI (en)), rf G 86, rf G 87])) (h86 : F (86) = rI G (24) (jl)) (h87 : F (87) = rI G (24) (jp)) : sx_I G l yX6_journal wsX6_journal rmX6_journal [rf G 0, .int (x), .int (y)] (97) F (97) (fun r F1 => F = F1 ∧ journF en jo x y = r) := by
  refine sx_enter (cc := cX6_journal) (maxL := 4) (ret := some .int) (own := RX6) (nm := "journal") (by decide) rfl rfl rfl (Nat.le_of_ble_eq_true rfl) ?_
  intro pp ee ss mm args below meth kc ls Q hQ X hs hP hl
  have hl : lv_has ls 4 [(0, rf G 0), (1, .int (x)), (2, .int (y))] := hl
  refine lv_iload_n X.1.1 X.1.2.1 dX6_journal_0 rfl (lv_at hl 2 rfl) ?_
  refine lv_iconst (v := nI 2) X.1.1 X.1.2.1 dX6_journal_1 (by decide) ?_
  refine sx_csI (As := [.int (y), .int (nI 2)]) (rest := []) X (mX6_isIn l (x := (y)) (k := 2) (by omega)) gX6_journal_X6_isIn rfl ys_X6_isIn ⟨Nat.le_of_ble_eq_true rfl, Nat.le_of_ble_eq_true rfl⟩ hl.1 rfl (Nat.le_of_ble_eq_true rfl) dX6_journal_2 ⟨Nat.le_of_ble_eq_true rfl, Nat.le_of_ble_eq_true rfl⟩ hs rfl hP (fun r1 F1 H1 l1 hp hP => ?_)
  obtain ⟨rfl, ⟨b2, rfl⟩ | ⟨b2, rfl⟩⟩ := hp
  · obtain ⟨o, ho, rfl⟩ := b2
    refine sx_if_ne X (by decide) (tgt := 11) dX6_journal_5 (by decide) (fun _ => ?_) (fun h => absurd h (by decide))
    refine lv_aload_n X.1.1 X.1.2.1 dX6_journal_11 rfl (lv_at hl 0 rfl) ?_
    refine sx_get X hP in_X6_journal_X6 h0 (by decide) rfl 3 (by decide) lk_X6_journal_fieldLink_RX6_27_RaceWatch_telling_LRaceWatch_Telling rfl dX6_journal_12 ?_
    refine sx_get X hP in_X6_journal_X4 h84 (by decide) rfl 2 (by decide) lk_X6_journal_fieldLink_RX6_117_RaceWatch_Telling_book_LRaceWatch_Book rfl dX6_journal_15 ?_
    refine lv_astore_n (lv' := [(3, rf G 85), (0, rf G 0), (1, .int (x)), (2, .int (nI (o)))]) X.1.1 X.1.2.1 dX6_journal_18 rfl hl (by decide) rfl (fun ls hl => ?_)
    refine lv_iload_n X.1.1 X.1.2.1 dX6_journal_19 rfl (lv_at hl 2 rfl) ?_
    refine lv_aload_n X.1.1 X.1.2.1 dX6_journal_20 rfl (lv_at hl 0 rfl) ?_
    refine sx_get X hP in_X6_journal_X0 h85 (by decide) rfl 0 (by decide) lk_X6_journal_fieldLink_RX6_121_RaceWatch_Book_count_I rfl dX6_journal_21 ?_
    refine sx_csI (As := [.int (x), .int (nI (en))]) (rest := []) X (mX6_isIn l (x := (x)) (k := en) (by omega)) gX6_journal_X6_isIn rfl ys_X6_isIn ⟨Nat.le_of_ble_eq_true rfl, Nat.le_of_ble_eq_true rfl⟩ hl.1 rfl (Nat.le_of_ble_eq_true rfl) dX6_journal_24 ⟨Nat.le_of_ble_eq_true rfl, Nat.le_of_ble_eq_true rfl⟩ hs rfl hP (fun r3 F3 H3 l3 hp hP => ?_)
    obtain ⟨rfl, ⟨b4, rfl⟩ | ⟨b4, rfl⟩⟩ := hp
    · obtain ⟨i, hi, rfl⟩ := b4
      refine sx_if_ne X (by decide) (tgt := 32) dX6_journal_27 (by decide) (fun _ => ?_) (fun h => absurd h (by decide))
      refine lv_iload_n X.1.1 X.1.2.1 dX6_journal_32 rfl (lv_at hl 3 rfl) ?_
      refine sx_if_ne X (by omega) (tgt := 45) dX6_journal_33 (by decide) (fun c33 => ?_) (fun c33 => ?_)
      · refine lv_aload_n X.1.1 X.1.2.1 dX6_journal_45 rfl (lv_at hl 0 rfl) ?_
        refine sx_get X hP in_X6_journal_X0 h85 (by decide) rfl 2 (by decide) lk_X6_journal_fieldLink_RX6_156_RaceWatch_Book_opened_I rfl dX6_journal_46 ?_
        refine lv_iload_n X.1.1 X.1.2.1 dX6_journal_49 rfl (lv_at hl 2 rfl) ?_
        refine sx_ald X hP h87 (by decide) (i) (by omega) (by decide) dX6_journal_50 ?_
        rw [hQ]
        exact sx_iret X rfl hs rfl hP dX6_journal_51 (⟨rfl, by unfold journF; rw [cif_f (fun q => q ⟨o, ho, rfl⟩), cif_f (fun q => q ⟨i, hi, rfl⟩), nI_clamp (n := o) (by omega), nI_clamp (n := i) (by omega), if_neg c33]; exact (Bk_0 hBk hi).2⟩)
      · refine lv_aload_n X.1.1 X.1.2.1 dX6_journal_36 rfl (lv_at hl 0 rfl) ?_
        refine sx_get X hP in_X6_journal_X0 h85 (by decide) rfl 1 (by decide) lk_X6_journal_fieldLink_RX6_155_RaceWatch_Book_locks_I rfl dX6_journal_37 ?_
        refine lv_iload_n X.1.1 X.1.2.1 dX6_journal_40 rfl (lv_at hl 2 rfl) ?_
        refine sx_ald X hP h86 (by decide) (i) (by omega) (by decide) dX6_journal_41 ?_
        refine lv_goto (tgt := 51) X.1.1 X.1.2.1 dX6_journal_42 (by decide) ?_
        rw [hQ]
        exact sx_iret X rfl hs rfl hP dX6_journal_51 (⟨rfl, by unfold journF; rw [cif_f (fun q => q ⟨o, ho, rfl⟩), cif_f (fun q => q ⟨i, hi, rfl⟩), nI_clamp (n := o) (by omega), nI_clamp (n := i) (by omega), if_pos c33]; exact (Bk_0 hBk hi).1⟩)
    · refine sx_if_ne X (by decide) (tgt := 32) dX6_journal_27 (by decide) (fun h => absurd h (by decide)) (fun _ => ?_)
      refine lv_iconst (v := (-1)) X.1.1 X.1.2.1 dX6_journal_30 (by decide) ?_
      rw [hQ]
      exact sx_iret X rfl hs rfl hP dX6_journal_31 (⟨rfl, by unfold journF; rw [cif_f (fun q => q ⟨o, ho, rfl⟩), cif_t b4]⟩)
  · refine sx_if_ne X (by decide) (tgt := 11) dX6_journal_5 (by decide) (fun h => absurd h (by decide)) (fun _ => ?_)
    refine lv_ldc (v := -1000000002) X.1.1 X.1.2.1 X.1.2.2.2.1 (X.1.2.2.2.2 _ lk_X6_journal_constant_RX6_44_1000000002) dX6_journal_8 ?_
    rw [hQ]
    exact sx_iret X rfl hs rfl hP dX6_journal_10 (⟨rfl, by unfold journF; rw [cif_t b2]⟩)
theorem ys_X4_faultOfFigure : yX4_faultOfFigure.cls ≠ "java/lang/invoke/MethodHandle" ∧ yX4_faultOfFigure.cls ≠ "java/lang/invoke/VarHandle" ∧ (parseMethodDescriptor yX4_faultOfFigure.desc).map (fun d => d.parameters.length) = some 1 := by decide +kernel
theorem yv_X4_faultOfFigure : yX4_faultOfFigure.cls = RX4 ∧ yX4_faultOfFigure.cls ≠ "java/lang/invoke/MethodHandle" ∧ yX4_faultOfFigure.cls ≠ "java/lang/invoke/VarHandle" ∧ (parseMethodDescriptor yX4_faultOfFigure.desc).map (fun d => d.parameters.length) = some 1 := ⟨rfl, ys_X4_faultOfFigure⟩
theorem in_X4_faultOfFigure_X4 : ∀ w ∈ wsX40, w ∈ wsX4_faultOfFigure := fun _ h => List.mem_cons_of_mem _ (List.mem_append_right _ (h))
theorem lk_X4_faultOfFigure_fieldLink_RX4_52_RaceWatch_Telling_item_I : (.fieldLink RX4 52 "RaceWatch$Telling" "item" "I" : Cond) ∈ wsX4_faultOfFigure := List.mem_cons_of_mem _ (List.mem_append_left _ (List.mem_of_getElem? (i := 0) rfl))
theorem lk_X4_faultOfFigure_initialized_RX6 : (.initialized RX6 : Cond) ∈ wsX4_faultOfFigure := List.mem_cons_of_mem _ (List.mem_append_left _ (List.mem_of_getElem? (i := 2) rfl))
theorem lk_X4_faultOfFigure_static_yX6_boundOf : (.static yX6_boundOf : Cond) ∈ wsX4_faultOfFigure := List.mem_cons_of_mem _ (List.mem_append_left _ (List.mem_of_getElem? (i := 1) rfl))
abbrev rmX4_faultOfFigure : Room := { frames := 1, cells := 0, slots := 0, locals := 20 }
set_option maxHeartbeats 800000 in
set_option maxRecDepth 100000 in
theorem mX4_faultOfFigure {G : sx_G} (l : Launch) {F : Nat → va_E} {a : Nat} {q0 q1 q5 q6 q7 q8 : Value} {it : Nat}  (ha : a < 256) (hit : it < 9) (h84 : F (84) = ob 4 ([q0, q1, rf G 85, rf G 88, q5, .int (nI (it)), q6, q7, q8, rf G 89, rf G 90])) : sx_I G l yX4_faultOfFigure wsX4_faultOfFigure rmX4_faultOfFigure [rf G 84, .int (nI (a))] (97) F (97) (fun r F1 => F = F1 ∧ ((a < 48 ∨ 57 < a) ∧ nI 1 = r ∨ (48 ≤ a ∧ a ≤ 57 ∧ boundF it ≤ a - 48 ∧ nI 2 = r) ∨ (48 ≤ a ∧ a ≤ 57 ∧ a - 48 < boundF it ∧ nI 0 = r))) := by
  refine sx_enter (cc := cX4_faultOfFigure) (maxL := 2) (ret := some .int) (own := RX4) (nm := "faultOfFigure") (by decide) rfl rfl rfl (Nat.le_of_ble_eq_true rfl) ?_
  intro pp ee ss mm args below meth kc ls Q hQ X hs hP hl
  have hl : lv_has ls 2 [(0, rf G 84), (1, .int (nI (a)))] := hl
  refine lv_iload_n X.1.1 X.1.2.1 dX4_faultOfFigure_0 rfl (lv_at hl 1 rfl) ?_
  refine lv_bipush (v := nI 48) X.1.1 X.1.2.1 dX4_faultOfFigure_1 (by decide) ?_
  refine sx_icmp_lt X (by omega) (by decide) (tgt := 12) dX4_faultOfFigure_3 (by decide) (fun c3 => ?_) (fun c3 => ?_)
  · refine lv_iconst (v := nI 1) X.1.1 X.1.2.1 dX4_faultOfFigure_12 (by decide) ?_
    rw [hQ]
    exact sx_iret X rfl hs rfl hP dX4_faultOfFigure_13 (⟨rfl, Or.inl ⟨by omega, rfl⟩⟩)
  · refine lv_iload_n X.1.1 X.1.2.1 dX4_faultOfFigure_6 rfl (lv_at hl 1 rfl) ?_
    refine lv_bipush (v := nI 57) X.1.1 X.1.2.1 dX4_faultOfFigure_7 (by decide) ?_
    refine sx_icmp_le X (by omega) (by decide) (tgt := 14) dX4_faultOfFigure_9 (by decide) (fun c9 => ?_) (fun c9 => ?_)
    · refine lv_iload_n X.1.1 X.1.2.1 dX4_faultOfFigure_14 rfl (lv_at hl 1 rfl) ?_
      refine lv_bipush (v := nI 48) X.1.1 X.1.2.1 dX4_faultOfFigure_15 (by decide) ?_
      refine sx_subN X ((a - 48)) (by omega) (by omega) dX4_faultOfFigure_17 ?_
      refine lv_aload_n X.1.1 X.1.2.1 dX4_faultOfFigure_18 rfl (lv_at hl 0 rfl) ?_
      refine sx_get X hP in_X4_faultOfFigure_X4 h84 (by decide) rfl 5 (by decide) lk_X4_faultOfFigure_fieldLink_RX4_52_RaceWatch_Telling_item_I rfl dX4_faultOfFigure_19 ?_
      refine sx_cnI (As := [.int (nI (it))]) (rest := .int (nI ((a - 48))) :: []) X (mX6_boundOf l (s := it) (by omega)) gX4_faultOfFigure_X6_boundOf_n69 rfl X.2.2.2.2.2.2.2.2.2.1 lk_X4_faultOfFigure_initialized_RX6 lk_X4_faultOfFigure_static_yX6_boundOf ys_X6_boundOf ⟨Nat.le_of_ble_eq_true rfl, Nat.le_of_ble_eq_true rfl⟩ hl.1 rfl (Nat.le_of_ble_eq_true rfl) dX4_faultOfFigure_22 ⟨Nat.le_of_ble_eq_true rfl, Nat.le_of_ble_eq_true rfl⟩ hs rfl hP (fun r1 F1 H1 l1 hp hP => ?_)
      obtain ⟨rfl, rfl⟩ := hp
      have hbl := boundF_le it
      refine sx_icmp_ge X (by omega) (by omega) (tgt := 32) dX4_faultOfFigure_25 (by decide) (fun c25 => ?_) (fun c25 => ?_)
      · refine lv_iconst (v := nI 2) X.1.1 X.1.2.1 dX4_faultOfFigure_32 (by decide) ?_
        rw [hQ]
        exact sx_iret X rfl hs rfl hP dX4_faultOfFigure_33 (⟨rfl, Or.inr (Or.inl ⟨by omega, by omega, by omega, rfl⟩)⟩)
      · refine lv_iconst (v := nI 0) X.1.1 X.1.2.1 dX4_faultOfFigure_28 (by decide) ?_
        refine lv_goto (tgt := 33) X.1.1 X.1.2.1 dX4_faultOfFigure_29 (by decide) ?_
        rw [hQ]
        exact sx_iret X rfl hs rfl hP dX4_faultOfFigure_33 (⟨rfl, Or.inr (Or.inr ⟨by omega, by omega, by omega, rfl⟩)⟩)
    · refine lv_iconst (v := nI 1) X.1.1 X.1.2.1 dX4_faultOfFigure_12 (by decide) ?_
      rw [hQ]
      exact sx_iret X rfl hs rfl hP dX4_faultOfFigure_13 (⟨rfl, Or.inl ⟨by omega, rfl⟩⟩)
