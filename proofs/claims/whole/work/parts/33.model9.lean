theorem ys_X7_takesItem : yX7_takesItem.cls ≠ "java/lang/invoke/MethodHandle" ∧ yX7_takesItem.cls ≠ "java/lang/invoke/VarHandle" ∧ (parseMethodDescriptor yX7_takesItem.desc).map (fun d => d.parameters.length) = some 1 := by decide +kernel
theorem yv_X7_takesItem : yX7_takesItem.cls = RX7 ∧ yX7_takesItem.cls ≠ "java/lang/invoke/MethodHandle" ∧ yX7_takesItem.cls ≠ "java/lang/invoke/VarHandle" ∧ (parseMethodDescriptor yX7_takesItem.desc).map (fun d => d.parameters.length) = some 1 := ⟨rfl, ys_X7_takesItem⟩
theorem in_X7_takesItem_X7 : ∀ w ∈ wsX70, w ∈ wsX7_takesItem := fun _ h => List.mem_cons_of_mem _ (List.mem_append_right _ (h))
theorem lk_X7_takesItem_fieldLink_RX7_133_RaceWatchModel_at_I : (.fieldLink RX7 133 "RaceWatchModel" "at" "I" : Cond) ∈ wsX7_takesItem := List.mem_cons_of_mem _ (List.mem_append_left _ (List.mem_append_left _ (List.mem_of_getElem? (i := 0) rfl)))
abbrev rmX7_takesItem : Room := { frames := 6, cells := 0, slots := 0, locals := 143 }
set_option maxHeartbeats 800000 in
set_option maxRecDepth 100000 in
theorem mX7_takesItem {G : sx_G} (l : Launch) {F : Nat → va_E} {a1 xl : Value} {w jo ol ot : Nat → Int32} {A : Nat → Nat} {i len n en it who d : Nat} {fig fa fat : Int32}  (hIT : IT A len i (w, n, en, jo, 0, it, who, d, ol, ot)) (hi : i < len) (hnb : ¬ A i = 32) (hA256 : A i < 256) (h91 : F (91) = ob 7 ([rf G 92, a1, .int (nI (en)), rf G 94, xl, .int (nI (i)), .int (fig), .int (fa), .int (fat), .int (nI (who)), .int (nI (d)), .int (nI (rgF ol d)), rf G 95, rf G 96])) (h92 : F (92) = rI G (4358) (w)) (h94 : F (94) = rI G (24) (jo)) (h95 : F (95) = rI G (240) (ol)) (h96 : F (96) = rI G (240) (ot)) : sx_I G l yX7_takesItem wsX7_takesItem rmX7_takesItem [rf G 91, .int (nI (A i))] (97) F (97) (fun r F1 => done G A len i (w, n, en, jo, 0, it, who, d, ol, ot) a1 xl fa fat r F1 ∧ ∀ j, j ≠ 91 ∧ j ≠ 92 ∧ j ≠ 94 ∧ j ≠ 95 ∧ j ≠ 96 → F1 j = F j) := by
  refine sx_enter (cc := cX7_takesItem) (maxL := 3) (ret := some .boolean) (own := RX7) (nm := "takesItem") (by decide) rfl rfl rfl (Nat.le_of_ble_eq_true rfl) ?_
  intro pp ee ss mm args below meth kc ls Q hQ X hs hP hl
  have hl : lv_has ls 3 [(0, rf G 91), (1, .int (nI (A i)))] := hl
  have hO : ∀ j, j ≠ 91 ∧ j ≠ 92 ∧ j ≠ 94 ∧ j ≠ 95 ∧ j ≠ 96 → F j = F j := fun _ _ => rfl
  obtain ⟨hWF, hrg, hdi, hwho, hen, hjo, hst, ⟨hch1, hch2⟩, hA⟩ := id hIT
  have hn := hWF.2.1
  have h91n := hWF.1
  have hl240 := hA.2.1
  have hrl := rgF_le ol d
  refine lv_iload_n X.1.1 X.1.2.1 dX7_takesItem_0 rfl (lv_at hl 1 rfl) ?_
  refine lv_bipush (v := nI 41) X.1.1 X.1.2.1 dX7_takesItem_1 (by decide) ?_
  refine sx_icmp_ne X (by omega) (by decide) (tgt := 11) dX7_takesItem_3 (by decide) (fun c3 => ?_) (fun c3 => ?_)
  · refine lv_iload_n X.1.1 X.1.2.1 dX7_takesItem_11 rfl (lv_at hl 1 rfl) ?_
    refine sx_csI (As := [.int (nI (A i))]) (rest := []) X (mX7_sortOf l (a := A i) (by omega)) gX7_takesItem_X7_sortOf rfl ys_X7_sortOf ⟨Nat.le_of_ble_eq_true rfl, Nat.le_of_ble_eq_true rfl⟩ hl.1 rfl (Nat.le_of_ble_eq_true rfl) dX7_takesItem_12 ⟨Nat.le_of_ble_eq_true rfl, Nat.le_of_ble_eq_true rfl⟩ hs rfl hP (fun r1 F1 H1 l1 hp hP => ?_)
    obtain ⟨rfl, ⟨s, hsr, rfl⟩ | ⟨hno, rfl⟩⟩ := hp
    · have hs8 := hsr.2.1
      have hs2 := hsr.2.2.1
      have hs3 := hsr.2.2.2
      refine lv_istore_n (lv' := [(2, .int (nI (s))), (0, rf G 91), (1, .int (nI (A i)))]) X.1.1 X.1.2.1 dX7_takesItem_15 rfl hl (by decide) rfl (fun ls hl => ?_)
      refine lv_iload_n X.1.1 X.1.2.1 dX7_takesItem_16 rfl (lv_at hl 2 rfl) ?_
      refine lv_bipush (v := nI 116) X.1.1 X.1.2.1 dX7_takesItem_17 (by decide) ?_
      refine sx_icmp_eq X (by omega) (by decide) (tgt := 39) dX7_takesItem_19 (by decide) (fun c19 => absurd c19 (fun q => by have h := hsr.1; rw [q] at h; revert h; show (8 : Nat) = s → False; omega)) (fun c19 => ?_)
      refine lv_iload_n X.1.1 X.1.2.1 dX7_takesItem_22 rfl (lv_at hl 2 rfl) ?_
      refine lv_bipush (v := nI 108) X.1.1 X.1.2.1 dX7_takesItem_23 (by decide) ?_
      refine sx_icmp_eq X (by omega) (by decide) (tgt := 39) dX7_takesItem_25 (by decide) (fun c25 => absurd c25 (fun q => by have h := hsr.1; rw [q] at h; revert h; show (2 : Nat) = s → False; omega)) (fun c25 => ?_)
      refine lv_iload_n X.1.1 X.1.2.1 dX7_takesItem_28 rfl (lv_at hl 0 rfl) ?_
      refine lv_iconst (v := (-1)) X.1.1 X.1.2.1 dX7_takesItem_29 (by decide) ?_
      refine lv_icmp_ne X.1.1 X.1.2.1 (tgt := 39) dX7_takesItem_30 (by decide) (fun _ => ?_) (fun h => absurd h (sx_m1 (by omega)))
      refine lv_aload_n X.1.1 X.1.2.1 dX7_takesItem_39 rfl (lv_at hl 1 rfl) ?_
      refine lv_dup X.1.1 X.1.2.1 dX7_takesItem_40 rfl ?_
      refine sx_get X hP in_X7_takesItem_X7 h91 (by decide) rfl 5 (by decide) lk_X7_takesItem_fieldLink_RX7_133_RaceWatchModel_at_I rfl dX7_takesItem_41 ?_
      refine lv_iconst (v := nI 1) X.1.1 X.1.2.1 dX7_takesItem_44 (by decide) ?_
      refine sx_addN X (1 + i) (by omega) dX7_takesItem_45 ?_
      refine sx_put X hP in_X7_takesItem_X7 tyX7 tyX7_ok nmX7 h91 (by decide) rfl 5 (by decide) lk_X7_takesItem_fieldLink_RX7_133_RaceWatchModel_at_I rfl rfl rfl (Nat.le_of_ble_eq_true rfl) dX7_takesItem_46 (fun F2 H2 l2 e2 o2 hP => ?_)
      have h91 : F2 (91) = ob 7 ([rf G 92, a1, .int (nI (en)), rf G 94, xl, .int (nI (1 + i)), .int (fig), .int (fa), .int (fat), .int (nI (who)), .int (nI (d)), .int (nI (rgF ol d)), rf G 95, rf G 96]) := e2
      have h92 := (o2 (92) (by decide)).trans h92
      have h94 := (o2 (94) (by decide)).trans h94
      have h95 := (o2 (95) (by decide)).trans h95
      have h96 := (o2 (96) (by decide)).trans h96
      have hO : ∀ j, j ≠ 91 ∧ j ≠ 92 ∧ j ≠ 94 ∧ j ≠ 95 ∧ j ≠ 96 → F2 j = F j := fun j hj => (o2 j (by omega)).trans (hO j hj)
      refine lv_iload_n X.1.1 X.1.2.1 dX7_takesItem_49 rfl (lv_at hl 2 rfl) ?_
      refine lv_bipush (v := nI 108) X.1.1 X.1.2.1 dX7_takesItem_50 (by decide) ?_
      refine sx_icmp_ne X (by omega) (by decide) (tgt := 60) dX7_takesItem_52 (by decide) (fun c52 => ?_) (fun c52 => absurd c52 (by omega))
      refine lv_iload_n X.1.1 X.1.2.1 dX7_takesItem_60 rfl (lv_at hl 2 rfl) ?_
      refine lv_bipush (v := nI 116) X.1.1 X.1.2.1 dX7_takesItem_61 (by decide) ?_
      refine sx_icmp_ne X (by omega) (by decide) (tgt := 71) dX7_takesItem_63 (by decide) (fun c63 => ?_) (fun c63 => absurd c63 (by omega))
      refine lv_aload_n X.1.1 X.1.2.1 dX7_takesItem_71 rfl (lv_at hl 1 rfl) ?_
      refine lv_iload_n X.1.1 X.1.2.1 dX7_takesItem_72 rfl (lv_at hl 0 rfl) ?_
      refine lv_iconst (v := nI 4) X.1.1 X.1.2.1 dX7_takesItem_73 (by decide) ?_
      refine sx_icmp_eq X (by omega) (by decide) (tgt := 82) dX7_takesItem_74 (by decide) (fun c74 => ?_) (fun c74 => ?_)
      · refine lv_iconst (v := nI 1) X.1.1 X.1.2.1 dX7_takesItem_82 (by decide) ?_
        refine lv_goto (tgt := 87) X.1.1 X.1.2.1 dX7_takesItem_83 (by decide) ?_
        have hbd : boundF s = 2 := by (unfold boundF; (repeat' split) <;> omega)
        refine sx_cvI (As := [.int (nI 1)]) (rest := []) X (mX7_takesFigure l (A := A) (len := len) (i := 1 + i) (mo := 1) hA (by omega) hl240 (by decide) h91 h92) gX7_takesItem_X7_takesFigure rfl yv_X7_takesFigure ⟨Nat.le_of_ble_eq_true rfl, Nat.le_of_ble_eq_true rfl⟩ h91 (by decide) rfl rfl hl.1 rfl (Nat.le_of_ble_eq_true rfl) dX7_takesItem_87 ⟨Nat.le_of_ble_eq_true rfl, Nat.le_of_ble_eq_true rfl⟩ hs rfl hP (fun r3 F3 H3 l3 hp hP => ?_)
        obtain ⟨i3, sk3, o3, ⟨e3, q1, rfl⟩ | ⟨e3, q1, q2, q3, q4, rfl⟩ | ⟨e3, q1, q2, q3, q4, rfl⟩⟩ := hp
        · have g3a := sk3.1
          have g3b := sk3.2.1
          have h91 : F3 (91) = ob 7 ([rf G 92, a1, .int (nI (en)), rf G 94, xl, .int (nI (i3)), .int (fig), .int (nI 1), .int (nI (i3)), .int (nI (who)), .int (nI (d)), .int (nI (rgF ol d)), rf G 95, rf G 96]) := e3
          have h92 := (o3 (92) (by decide)).trans h92
          have h94 := (o3 (94) (by decide)).trans h94
          have h95 := (o3 (95) (by decide)).trans h95
          have h96 := (o3 (96) (by decide)).trans h96
          have hO : ∀ j, j ≠ 91 ∧ j ≠ 92 ∧ j ≠ 94 ∧ j ≠ 95 ∧ j ≠ 96 → F3 j = F j := fun j hj => (o3 j (by omega)).trans (hO j hj)
          refine sx_if_eq X (by decide) (tgt := 114) dX7_takesItem_90 (by decide) (fun _ => ?_) (fun h => absurd h (by decide))
          refine lv_iconst (v := nI 0) X.1.1 X.1.2.1 dX7_takesItem_114 (by decide) ?_
          rw [hQ]
          exact sx_zret X rfl (by decide) hs rfl hP dX7_takesItem_115 (⟨Or.inr ⟨rfl, (w, n, en, jo, 1, s, who, d, ol, ot), i3, 1, _, by decide, by decide, by omega, hIT.le (by omega), ⟨h91, h92, h94, h95, h96⟩, (show goT A len (len - i) (w, n, en, jo, 0, it, who, d, ol, ot) = goT A len (len - (1 + i)) (w, n, en, jo, 1, s, who, d, ol, ot) from by have := goT_go (T := (w, n, en, jo, 0, it, who, d, ol, ot)) hi (tS_item hnb (by omega) (by rw [hsr.1]; omega)); rw [hsr.1] at this; exact this).trans (num_f1 sk3 q1)⟩, hO⟩)
        · have g3a := sk3.1
          have g3b := sk3.2.1
          have h91 : F3 (91) = ob 7 ([rf G 92, a1, .int (nI (en)), rf G 94, xl, .int (nI (i3)), .int (nI ((A i3 - 48))), .int (nI 2), .int (nI (i3)), .int (nI (who)), .int (nI (d)), .int (nI (rgF ol d)), rf G 95, rf G 96]) := e3
          have h92 := (o3 (92) (by decide)).trans h92
          have h94 := (o3 (94) (by decide)).trans h94
          have h95 := (o3 (95) (by decide)).trans h95
          have h96 := (o3 (96) (by decide)).trans h96
          have hO : ∀ j, j ≠ 91 ∧ j ≠ 92 ∧ j ≠ 94 ∧ j ≠ 95 ∧ j ≠ 96 → F3 j = F j := fun j hj => (o3 j (by omega)).trans (hO j hj)
          refine sx_if_eq X (by decide) (tgt := 114) dX7_takesItem_90 (by decide) (fun _ => ?_) (fun h => absurd h (by decide))
          refine lv_iconst (v := nI 0) X.1.1 X.1.2.1 dX7_takesItem_114 (by decide) ?_
          rw [hQ]
          exact sx_zret X rfl (by decide) hs rfl hP dX7_takesItem_115 (⟨Or.inr ⟨rfl, (w, n, en, jo, 1, s, who, d, ol, ot), i3, 2, _, by decide, by decide, by omega, hIT.le (by omega), ⟨h91, h92, h94, h95, h96⟩, (show goT A len (len - i) (w, n, en, jo, 0, it, who, d, ol, ot) = goT A len (len - (1 + i)) (w, n, en, jo, 1, s, who, d, ol, ot) from by have := goT_go (T := (w, n, en, jo, 0, it, who, d, ol, ot)) hi (tS_item hnb (by omega) (by rw [hsr.1]; omega)); rw [hsr.1] at this; exact this).trans (num_f2 sk3 q1 q2 q3 (by omega))⟩, hO⟩)
        · have g3a := sk3.1
          have g3b := sk3.2.1
          have h91 : F3 (91) = ob 7 ([rf G 92, a1, .int (nI (en)), rf G 94, xl, .int (nI (i3)), .int (nI ((A i3 - 48))), .int (fa), .int (fat), .int (nI (who)), .int (nI (d)), .int (nI (rgF ol d)), rf G 95, rf G 96]) := e3
          have h92 := (o3 (92) (by decide)).trans h92
          have h94 := (o3 (94) (by decide)).trans h94
          have h95 := (o3 (95) (by decide)).trans h95
          have h96 := (o3 (96) (by decide)).trans h96
          have hO : ∀ j, j ≠ 91 ∧ j ≠ 92 ∧ j ≠ 94 ∧ j ≠ 95 ∧ j ≠ 96 → F3 j = F j := fun j hj => (o3 j (by omega)).trans (hO j hj)
          have d3a := q1
          have d3b := q2
          have d3c := q3
          have d3d := q4
          refine sx_if_eq X (by decide) (tgt := 114) dX7_takesItem_90 (by decide) (fun h => absurd h (by decide)) (fun _ => ?_)
          refine lv_aload_n X.1.1 X.1.2.1 dX7_takesItem_93 rfl (lv_at hl 1 rfl) ?_
          refine lv_iload_n X.1.1 X.1.2.1 dX7_takesItem_94 rfl (lv_at hl 0 rfl) ?_
          refine sx_cvI (As := [.int (nI (s))]) (rest := []) X (mX7_did l (n := n) (t := who) (s := s) (x := (A i3 - 48)) (g := rgF ol d) (i := i3) hWF hwho (by omega) (by omega) (by omega) (by omega) (by omega) (by omega) h91n h91 h92) gX7_takesItem_X7_did rfl yv_X7_did ⟨Nat.le_of_ble_eq_true rfl, Nat.le_of_ble_eq_true rfl⟩ h91 (by decide) rfl rfl hl.1 rfl (Nat.le_of_ble_eq_true rfl) dX7_takesItem_95 ⟨Nat.le_of_ble_eq_true rfl, Nat.le_of_ble_eq_true rfl⟩ hs rfl hP (fun r4 F4 H4 l4 hp hP => ?_)
          obtain ⟨o4, ⟨e4, f4, u1, rfl⟩ | ⟨e4, f4, u1, u2, rfl⟩ | ⟨e4, f4, u1, u2, rfl⟩⟩ := hp
          · have h91 : F4 (91) = ob 7 ([rf G 92, a1, .int (nI (en)), rf G 94, xl, .int (nI (i3)), .int (nI ((A i3 - 48))), .int (nI 3), .int (nI (i3)), .int (nI (who)), .int (nI (d)), .int (nI (rgF ol d)), rf G 95, rf G 96]) := e4
            have h92 : F4 (92) = rI G (4358) (w) := f4
            have h94 := (o4 (94) (by decide)).trans h94
            have h95 := (o4 (95) (by decide)).trans h95
            have h96 := (o4 (96) (by decide)).trans h96
            have hO : ∀ j, j ≠ 91 ∧ j ≠ 92 ∧ j ≠ 94 ∧ j ≠ 95 ∧ j ≠ 96 → F4 j = F j := fun j hj => (o4 j (by omega)).trans (hO j hj)
            refine sx_if_eq X (by decide) (tgt := 114) dX7_takesItem_98 (by decide) (fun _ => ?_) (fun h => absurd h (by decide))
            refine lv_iconst (v := nI 0) X.1.1 X.1.2.1 dX7_takesItem_114 (by decide) ?_
            rw [hQ]
            exact sx_zret X rfl (by decide) hs rfl hP dX7_takesItem_115 (⟨Or.inr ⟨rfl, (w, n, en, jo, 1, s, who, d, ol, ot), i3, 3, _, by decide, by decide, by omega, hIT.le (by omega), ⟨h91, h92, h94, h95, h96⟩, (show goT A len (len - i) (w, n, en, jo, 0, it, who, d, ol, ot) = goT A len (len - (1 + i)) (w, n, en, jo, 1, s, who, d, ol, ot) from by have := goT_go (T := (w, n, en, jo, 0, it, who, d, ol, ot)) hi (tS_item hnb (by omega) (by rw [hsr.1]; omega)); rw [hsr.1] at this; exact this).trans (num_f3 sk3 d3a d3b d3c (by omega) (by omega) u1)⟩, hO⟩)
          · have h91 : F4 (91) = ob 7 ([rf G 92, a1, .int (nI (en)), rf G 94, xl, .int (nI (i3)), .int (nI ((A i3 - 48))), .int (nI 4), .int (nI (i3)), .int (nI (who)), .int (nI (d)), .int (nI (rgF ol d)), rf G 95, rf G 96]) := e4
            have h92 : F4 (92) = rI G (4358) (w) := f4
            have h94 := (o4 (94) (by decide)).trans h94
            have h95 := (o4 (95) (by decide)).trans h95
            have h96 := (o4 (96) (by decide)).trans h96
            have hO : ∀ j, j ≠ 91 ∧ j ≠ 92 ∧ j ≠ 94 ∧ j ≠ 95 ∧ j ≠ 96 → F4 j = F j := fun j hj => (o4 j (by omega)).trans (hO j hj)
            refine sx_if_eq X (by decide) (tgt := 114) dX7_takesItem_98 (by decide) (fun _ => ?_) (fun h => absurd h (by decide))
            refine lv_iconst (v := nI 0) X.1.1 X.1.2.1 dX7_takesItem_114 (by decide) ?_
            rw [hQ]
            exact sx_zret X rfl (by decide) hs rfl hP dX7_takesItem_115 (⟨Or.inr ⟨rfl, (w, n, en, jo, 1, s, who, d, ol, ot), i3, 4, _, by decide, by decide, by omega, hIT.le (by omega), ⟨h91, h92, h94, h95, h96⟩, (show goT A len (len - i) (w, n, en, jo, 0, it, who, d, ol, ot) = goT A len (len - (1 + i)) (w, n, en, jo, 1, s, who, d, ol, ot) from by have := goT_go (T := (w, n, en, jo, 0, it, who, d, ol, ot)) hi (tS_item hnb (by omega) (by rw [hsr.1]; omega)); rw [hsr.1] at this; exact this).trans (num_f4 sk3 d3a d3b d3c (by omega) (by omega) u1 u2)⟩, hO⟩)
          · have h91 : F4 (91) = ob 7 ([rf G 92, a1, .int (nI (en)), rf G 94, xl, .int (nI (1 + i3)), .int (nI ((A i3 - 48))), .int (fa), .int (fat), .int (nI (who)), .int (nI (d)), .int (nI (rgF ol d)), rf G 95, rf G 96]) := e4
            have h92 : F4 (92) = rI G (4358) (comeF w n who (s) ((A i3 - 48))) := f4
            have h94 := (o4 (94) (by decide)).trans h94
            have h95 := (o4 (95) (by decide)).trans h95
            have h96 := (o4 (96) (by decide)).trans h96
            have hO : ∀ j, j ≠ 91 ∧ j ≠ 92 ∧ j ≠ 94 ∧ j ≠ 95 ∧ j ≠ 96 → F4 j = F j := fun j hj => (o4 j (by omega)).trans (hO j hj)
            have hm1 : 1 ≤ moreF (s) := by unfold moreF; split <;> omega
            have hA := lt_come (t := who) (s := s) (x := (A i3 - 48)) hWF (by omega) hwho (by omega) (by omega) hA
            refine sx_if_eq X (by decide) (tgt := 114) dX7_takesItem_98 (by decide) (fun h => absurd h (by decide)) (fun _ => ?_)
            refine lv_aload_n X.1.1 X.1.2.1 dX7_takesItem_101 rfl (lv_at hl 1 rfl) ?_
            refine lv_bipush (v := nI 59) X.1.1 X.1.2.1 dX7_takesItem_102 (by decide) ?_
            refine sx_cvI (As := [.int (nI 59)]) (rest := []) X (mX7_takes l (A := A) (len := len) (i := 1 + i3) (c := 59) hA (by omega) hl240 (by decide) h91 h92) gX7_takesItem_X7_takes rfl yv_X7_takes ⟨Nat.le_of_ble_eq_true rfl, Nat.le_of_ble_eq_true rfl⟩ h91 (by decide) rfl rfl hl.1 rfl (Nat.le_of_ble_eq_true rfl) dX7_takesItem_104 ⟨Nat.le_of_ble_eq_true rfl, Nat.le_of_ble_eq_true rfl⟩ hs rfl hP (fun r5 F5 H5 l5 hp hP => ?_)
            obtain ⟨i5, sk5, o5, ⟨e5, t1, rfl⟩ | ⟨e5, t1, t2, rfl⟩⟩ := hp
            · have g5a := sk5.1
              have g5b := sk5.2.1
              have h91 : F5 (91) = ob 7 ([rf G 92, a1, .int (nI (en)), rf G 94, xl, .int (nI (i5)), .int (nI ((A i3 - 48))), .int (nI 1), .int (nI (i5)), .int (nI (who)), .int (nI (d)), .int (nI (rgF ol d)), rf G 95, rf G 96]) := e5
              have h92 := (o5 (92) (by decide)).trans h92
              have h94 := (o5 (94) (by decide)).trans h94
              have h95 := (o5 (95) (by decide)).trans h95
              have h96 := (o5 (96) (by decide)).trans h96
              have hO : ∀ j, j ≠ 91 ∧ j ≠ 92 ∧ j ≠ 94 ∧ j ≠ 95 ∧ j ≠ 96 → F5 j = F j := fun j hj => (o5 j (by omega)).trans (hO j hj)
              refine sx_if_eq X (by decide) (tgt := 114) dX7_takesItem_107 (by decide) (fun _ => ?_) (fun h => absurd h (by decide))
              refine lv_iconst (v := nI 0) X.1.1 X.1.2.1 dX7_takesItem_114 (by decide) ?_
              rw [hQ]
              exact sx_zret X rfl (by decide) hs rfl hP dX7_takesItem_115 (⟨Or.inr ⟨rfl, (comeF w n who s (A i3 - 48), 1 + n, en, jo, 2, s, who, d, ol, ot), i5, 1, _, by decide, by decide, by omega, (hIT.evn (by omega) (by omega) u2 u1).le (by omega), ⟨h91, h92, h94, h95, h96⟩, ((show goT A len (len - i) (w, n, en, jo, 0, it, who, d, ol, ot) = goT A len (len - (1 + i)) (w, n, en, jo, 1, s, who, d, ol, ot) from by have := goT_go (T := (w, n, en, jo, 0, it, who, d, ol, ot)) hi (tS_item hnb (by omega) (by rw [hsr.1]; omega)); rw [hsr.1] at this; exact this).trans (num_ev sk3 d3a d3b d3c (by omega) (by omega) (by omega) u1 u2)).trans (semi_f sk5 t1)⟩, hO⟩)
            · have g5a := sk5.1
              have g5b := sk5.2.1
              have h91 : F5 (91) = ob 7 ([rf G 92, a1, .int (nI (en)), rf G 94, xl, .int (nI (1 + i5)), .int (nI ((A i3 - 48))), .int (fa), .int (fat), .int (nI (who)), .int (nI (d)), .int (nI (rgF ol d)), rf G 95, rf G 96]) := e5
              have h92 := (o5 (92) (by decide)).trans h92
              have h94 := (o5 (94) (by decide)).trans h94
              have h95 := (o5 (95) (by decide)).trans h95
              have h96 := (o5 (96) (by decide)).trans h96
              have hO : ∀ j, j ≠ 91 ∧ j ≠ 92 ∧ j ≠ 94 ∧ j ≠ 95 ∧ j ≠ 96 → F5 j = F j := fun j hj => (o5 j (by omega)).trans (hO j hj)
              refine sx_if_eq X (by decide) (tgt := 114) dX7_takesItem_107 (by decide) (fun h => absurd h (by decide)) (fun _ => ?_)
              refine lv_iconst (v := nI 1) X.1.1 X.1.2.1 dX7_takesItem_110 (by decide) ?_
              refine lv_goto (tgt := 115) X.1.1 X.1.2.1 dX7_takesItem_111 (by decide) ?_
              rw [hQ]
              exact sx_zret X rfl (by decide) hs rfl hP dX7_takesItem_115 (⟨Or.inl ⟨rfl, (comeF w n who s (A i3 - 48), 1 + n, en, jo, 0, s, who, d, ol, ot), 1 + i5, _, by omega, by omega, rfl, (hIT.evn (by omega) (by omega) u2 u1).le (by omega), ⟨h91, h92, h94, h95, h96⟩, ((show goT A len (len - i) (w, n, en, jo, 0, it, who, d, ol, ot) = goT A len (len - (1 + i)) (w, n, en, jo, 1, s, who, d, ol, ot) from by have := goT_go (T := (w, n, en, jo, 0, it, who, d, ol, ot)) hi (tS_item hnb (by omega) (by rw [hsr.1]; omega)); rw [hsr.1] at this; exact this).trans (num_ev sk3 d3a d3b d3c (by omega) (by omega) (by omega) u1 u2)).trans (semi_ok sk5 t1 t2)⟩, hO⟩)
      · refine lv_iload_n X.1.1 X.1.2.1 dX7_takesItem_77 rfl (lv_at hl 0 rfl) ?_
        refine lv_iconst (v := nI 5) X.1.1 X.1.2.1 dX7_takesItem_78 (by decide) ?_
        refine sx_icmp_ne X (by omega) (by decide) (tgt := 86) dX7_takesItem_79 (by decide) (fun c79 => ?_) (fun c79 => ?_)
        · refine lv_iconst (v := nI 3) X.1.1 X.1.2.1 dX7_takesItem_86 (by decide) ?_
          have hbd : boundF s = 4 := by (unfold boundF; (repeat' split) <;> omega)
          refine sx_cvI (As := [.int (nI 3)]) (rest := []) X (mX7_takesFigure l (A := A) (len := len) (i := 1 + i) (mo := 3) hA (by omega) hl240 (by decide) h91 h92) gX7_takesItem_X7_takesFigure rfl yv_X7_takesFigure ⟨Nat.le_of_ble_eq_true rfl, Nat.le_of_ble_eq_true rfl⟩ h91 (by decide) rfl rfl hl.1 rfl (Nat.le_of_ble_eq_true rfl) dX7_takesItem_87 ⟨Nat.le_of_ble_eq_true rfl, Nat.le_of_ble_eq_true rfl⟩ hs rfl hP (fun r6 F6 H6 l6 hp hP => ?_)
          obtain ⟨i6, sk6, o6, ⟨e6, q1, rfl⟩ | ⟨e6, q1, q2, q3, q4, rfl⟩ | ⟨e6, q1, q2, q3, q4, rfl⟩⟩ := hp
          · have g6a := sk6.1
            have g6b := sk6.2.1
            have h91 : F6 (91) = ob 7 ([rf G 92, a1, .int (nI (en)), rf G 94, xl, .int (nI (i6)), .int (fig), .int (nI 1), .int (nI (i6)), .int (nI (who)), .int (nI (d)), .int (nI (rgF ol d)), rf G 95, rf G 96]) := e6
            have h92 := (o6 (92) (by decide)).trans h92
            have h94 := (o6 (94) (by decide)).trans h94
            have h95 := (o6 (95) (by decide)).trans h95
            have h96 := (o6 (96) (by decide)).trans h96
            have hO : ∀ j, j ≠ 91 ∧ j ≠ 92 ∧ j ≠ 94 ∧ j ≠ 95 ∧ j ≠ 96 → F6 j = F j := fun j hj => (o6 j (by omega)).trans (hO j hj)
            refine sx_if_eq X (by decide) (tgt := 114) dX7_takesItem_90 (by decide) (fun _ => ?_) (fun h => absurd h (by decide))
            refine lv_iconst (v := nI 0) X.1.1 X.1.2.1 dX7_takesItem_114 (by decide) ?_
            rw [hQ]
            exact sx_zret X rfl (by decide) hs rfl hP dX7_takesItem_115 (⟨Or.inr ⟨rfl, (w, n, en, jo, 1, s, who, d, ol, ot), i6, 1, _, by decide, by decide, by omega, hIT.le (by omega), ⟨h91, h92, h94, h95, h96⟩, (show goT A len (len - i) (w, n, en, jo, 0, it, who, d, ol, ot) = goT A len (len - (1 + i)) (w, n, en, jo, 1, s, who, d, ol, ot) from by have := goT_go (T := (w, n, en, jo, 0, it, who, d, ol, ot)) hi (tS_item hnb (by omega) (by rw [hsr.1]; omega)); rw [hsr.1] at this; exact this).trans (num_f1 sk6 q1)⟩, hO⟩)
          · have g6a := sk6.1
            have g6b := sk6.2.1
            have h91 : F6 (91) = ob 7 ([rf G 92, a1, .int (nI (en)), rf G 94, xl, .int (nI (i6)), .int (nI ((A i6 - 48))), .int (nI 2), .int (nI (i6)), .int (nI (who)), .int (nI (d)), .int (nI (rgF ol d)), rf G 95, rf G 96]) := e6
            have h92 := (o6 (92) (by decide)).trans h92
            have h94 := (o6 (94) (by decide)).trans h94
            have h95 := (o6 (95) (by decide)).trans h95
            have h96 := (o6 (96) (by decide)).trans h96
            have hO : ∀ j, j ≠ 91 ∧ j ≠ 92 ∧ j ≠ 94 ∧ j ≠ 95 ∧ j ≠ 96 → F6 j = F j := fun j hj => (o6 j (by omega)).trans (hO j hj)
            refine sx_if_eq X (by decide) (tgt := 114) dX7_takesItem_90 (by decide) (fun _ => ?_) (fun h => absurd h (by decide))
            refine lv_iconst (v := nI 0) X.1.1 X.1.2.1 dX7_takesItem_114 (by decide) ?_
            rw [hQ]
            exact sx_zret X rfl (by decide) hs rfl hP dX7_takesItem_115 (⟨Or.inr ⟨rfl, (w, n, en, jo, 1, s, who, d, ol, ot), i6, 2, _, by decide, by decide, by omega, hIT.le (by omega), ⟨h91, h92, h94, h95, h96⟩, (show goT A len (len - i) (w, n, en, jo, 0, it, who, d, ol, ot) = goT A len (len - (1 + i)) (w, n, en, jo, 1, s, who, d, ol, ot) from by have := goT_go (T := (w, n, en, jo, 0, it, who, d, ol, ot)) hi (tS_item hnb (by omega) (by rw [hsr.1]; omega)); rw [hsr.1] at this; exact this).trans (num_f2 sk6 q1 q2 q3 (by omega))⟩, hO⟩)
          · have g6a := sk6.1
            have g6b := sk6.2.1
            have h91 : F6 (91) = ob 7 ([rf G 92, a1, .int (nI (en)), rf G 94, xl, .int (nI (i6)), .int (nI ((A i6 - 48))), .int (fa), .int (fat), .int (nI (who)), .int (nI (d)), .int (nI (rgF ol d)), rf G 95, rf G 96]) := e6
            have h92 := (o6 (92) (by decide)).trans h92
            have h94 := (o6 (94) (by decide)).trans h94
            have h95 := (o6 (95) (by decide)).trans h95
            have h96 := (o6 (96) (by decide)).trans h96
            have hO : ∀ j, j ≠ 91 ∧ j ≠ 92 ∧ j ≠ 94 ∧ j ≠ 95 ∧ j ≠ 96 → F6 j = F j := fun j hj => (o6 j (by omega)).trans (hO j hj)
            have d6a := q1
            have d6b := q2
            have d6c := q3
            have d6d := q4
            refine sx_if_eq X (by decide) (tgt := 114) dX7_takesItem_90 (by decide) (fun h => absurd h (by decide)) (fun _ => ?_)
            refine lv_aload_n X.1.1 X.1.2.1 dX7_takesItem_93 rfl (lv_at hl 1 rfl) ?_
            refine lv_iload_n X.1.1 X.1.2.1 dX7_takesItem_94 rfl (lv_at hl 0 rfl) ?_
            refine sx_cvI (As := [.int (nI (s))]) (rest := []) X (mX7_did l (n := n) (t := who) (s := s) (x := (A i6 - 48)) (g := rgF ol d) (i := i6) hWF hwho (by omega) (by omega) (by omega) (by omega) (by omega) (by omega) h91n h91 h92) gX7_takesItem_X7_did rfl yv_X7_did ⟨Nat.le_of_ble_eq_true rfl, Nat.le_of_ble_eq_true rfl⟩ h91 (by decide) rfl rfl hl.1 rfl (Nat.le_of_ble_eq_true rfl) dX7_takesItem_95 ⟨Nat.le_of_ble_eq_true rfl, Nat.le_of_ble_eq_true rfl⟩ hs rfl hP (fun r7 F7 H7 l7 hp hP => ?_)
            obtain ⟨o7, ⟨e7, f7, u1, rfl⟩ | ⟨e7, f7, u1, u2, rfl⟩ | ⟨e7, f7, u1, u2, rfl⟩⟩ := hp
            · have h91 : F7 (91) = ob 7 ([rf G 92, a1, .int (nI (en)), rf G 94, xl, .int (nI (i6)), .int (nI ((A i6 - 48))), .int (nI 3), .int (nI (i6)), .int (nI (who)), .int (nI (d)), .int (nI (rgF ol d)), rf G 95, rf G 96]) := e7
              have h92 : F7 (92) = rI G (4358) (w) := f7
              have h94 := (o7 (94) (by decide)).trans h94
              have h95 := (o7 (95) (by decide)).trans h95
              have h96 := (o7 (96) (by decide)).trans h96
              have hO : ∀ j, j ≠ 91 ∧ j ≠ 92 ∧ j ≠ 94 ∧ j ≠ 95 ∧ j ≠ 96 → F7 j = F j := fun j hj => (o7 j (by omega)).trans (hO j hj)
              refine sx_if_eq X (by decide) (tgt := 114) dX7_takesItem_98 (by decide) (fun _ => ?_) (fun h => absurd h (by decide))
              refine lv_iconst (v := nI 0) X.1.1 X.1.2.1 dX7_takesItem_114 (by decide) ?_
              rw [hQ]
              exact sx_zret X rfl (by decide) hs rfl hP dX7_takesItem_115 (⟨Or.inr ⟨rfl, (w, n, en, jo, 1, s, who, d, ol, ot), i6, 3, _, by decide, by decide, by omega, hIT.le (by omega), ⟨h91, h92, h94, h95, h96⟩, (show goT A len (len - i) (w, n, en, jo, 0, it, who, d, ol, ot) = goT A len (len - (1 + i)) (w, n, en, jo, 1, s, who, d, ol, ot) from by have := goT_go (T := (w, n, en, jo, 0, it, who, d, ol, ot)) hi (tS_item hnb (by omega) (by rw [hsr.1]; omega)); rw [hsr.1] at this; exact this).trans (num_f3 sk6 d6a d6b d6c (by omega) (by omega) u1)⟩, hO⟩)
            · have h91 : F7 (91) = ob 7 ([rf G 92, a1, .int (nI (en)), rf G 94, xl, .int (nI (i6)), .int (nI ((A i6 - 48))), .int (nI 4), .int (nI (i6)), .int (nI (who)), .int (nI (d)), .int (nI (rgF ol d)), rf G 95, rf G 96]) := e7
              have h92 : F7 (92) = rI G (4358) (w) := f7
              have h94 := (o7 (94) (by decide)).trans h94
              have h95 := (o7 (95) (by decide)).trans h95
              have h96 := (o7 (96) (by decide)).trans h96
              have hO : ∀ j, j ≠ 91 ∧ j ≠ 92 ∧ j ≠ 94 ∧ j ≠ 95 ∧ j ≠ 96 → F7 j = F j := fun j hj => (o7 j (by omega)).trans (hO j hj)
              refine sx_if_eq X (by decide) (tgt := 114) dX7_takesItem_98 (by decide) (fun _ => ?_) (fun h => absurd h (by decide))
              refine lv_iconst (v := nI 0) X.1.1 X.1.2.1 dX7_takesItem_114 (by decide) ?_
              rw [hQ]
              exact sx_zret X rfl (by decide) hs rfl hP dX7_takesItem_115 (⟨Or.inr ⟨rfl, (w, n, en, jo, 1, s, who, d, ol, ot), i6, 4, _, by decide, by decide, by omega, hIT.le (by omega), ⟨h91, h92, h94, h95, h96⟩, (show goT A len (len - i) (w, n, en, jo, 0, it, who, d, ol, ot) = goT A len (len - (1 + i)) (w, n, en, jo, 1, s, who, d, ol, ot) from by have := goT_go (T := (w, n, en, jo, 0, it, who, d, ol, ot)) hi (tS_item hnb (by omega) (by rw [hsr.1]; omega)); rw [hsr.1] at this; exact this).trans (num_f4 sk6 d6a d6b d6c (by omega) (by omega) u1 u2)⟩, hO⟩)
            · have h91 : F7 (91) = ob 7 ([rf G 92, a1, .int (nI (en)), rf G 94, xl, .int (nI (1 + i6)), .int (nI ((A i6 - 48))), .int (fa), .int (fat), .int (nI (who)), .int (nI (d)), .int (nI (rgF ol d)), rf G 95, rf G 96]) := e7
              have h92 : F7 (92) = rI G (4358) (comeF w n who (s) ((A i6 - 48))) := f7
              have h94 := (o7 (94) (by decide)).trans h94
              have h95 := (o7 (95) (by decide)).trans h95
              have h96 := (o7 (96) (by decide)).trans h96
              have hO : ∀ j, j ≠ 91 ∧ j ≠ 92 ∧ j ≠ 94 ∧ j ≠ 95 ∧ j ≠ 96 → F7 j = F j := fun j hj => (o7 j (by omega)).trans (hO j hj)
              have hm1 : 1 ≤ moreF (s) := by unfold moreF; split <;> omega
              have hA := lt_come (t := who) (s := s) (x := (A i6 - 48)) hWF (by omega) hwho (by omega) (by omega) hA
              refine sx_if_eq X (by decide) (tgt := 114) dX7_takesItem_98 (by decide) (fun h => absurd h (by decide)) (fun _ => ?_)
              refine lv_aload_n X.1.1 X.1.2.1 dX7_takesItem_101 rfl (lv_at hl 1 rfl) ?_
              refine lv_bipush (v := nI 59) X.1.1 X.1.2.1 dX7_takesItem_102 (by decide) ?_
              refine sx_cvI (As := [.int (nI 59)]) (rest := []) X (mX7_takes l (A := A) (len := len) (i := 1 + i6) (c := 59) hA (by omega) hl240 (by decide) h91 h92) gX7_takesItem_X7_takes rfl yv_X7_takes ⟨Nat.le_of_ble_eq_true rfl, Nat.le_of_ble_eq_true rfl⟩ h91 (by decide) rfl rfl hl.1 rfl (Nat.le_of_ble_eq_true rfl) dX7_takesItem_104 ⟨Nat.le_of_ble_eq_true rfl, Nat.le_of_ble_eq_true rfl⟩ hs rfl hP (fun r8 F8 H8 l8 hp hP => ?_)
              obtain ⟨i8, sk8, o8, ⟨e8, t1, rfl⟩ | ⟨e8, t1, t2, rfl⟩⟩ := hp
              · have g8a := sk8.1
                have g8b := sk8.2.1
                have h91 : F8 (91) = ob 7 ([rf G 92, a1, .int (nI (en)), rf G 94, xl, .int (nI (i8)), .int (nI ((A i6 - 48))), .int (nI 1), .int (nI (i8)), .int (nI (who)), .int (nI (d)), .int (nI (rgF ol d)), rf G 95, rf G 96]) := e8
                have h92 := (o8 (92) (by decide)).trans h92
                have h94 := (o8 (94) (by decide)).trans h94
                have h95 := (o8 (95) (by decide)).trans h95
                have h96 := (o8 (96) (by decide)).trans h96
                have hO : ∀ j, j ≠ 91 ∧ j ≠ 92 ∧ j ≠ 94 ∧ j ≠ 95 ∧ j ≠ 96 → F8 j = F j := fun j hj => (o8 j (by omega)).trans (hO j hj)
                refine sx_if_eq X (by decide) (tgt := 114) dX7_takesItem_107 (by decide) (fun _ => ?_) (fun h => absurd h (by decide))
                refine lv_iconst (v := nI 0) X.1.1 X.1.2.1 dX7_takesItem_114 (by decide) ?_
                rw [hQ]
                exact sx_zret X rfl (by decide) hs rfl hP dX7_takesItem_115 (⟨Or.inr ⟨rfl, (comeF w n who s (A i6 - 48), 1 + n, en, jo, 2, s, who, d, ol, ot), i8, 1, _, by decide, by decide, by omega, (hIT.evn (by omega) (by omega) u2 u1).le (by omega), ⟨h91, h92, h94, h95, h96⟩, ((show goT A len (len - i) (w, n, en, jo, 0, it, who, d, ol, ot) = goT A len (len - (1 + i)) (w, n, en, jo, 1, s, who, d, ol, ot) from by have := goT_go (T := (w, n, en, jo, 0, it, who, d, ol, ot)) hi (tS_item hnb (by omega) (by rw [hsr.1]; omega)); rw [hsr.1] at this; exact this).trans (num_ev sk6 d6a d6b d6c (by omega) (by omega) (by omega) u1 u2)).trans (semi_f sk8 t1)⟩, hO⟩)
              · have g8a := sk8.1
                have g8b := sk8.2.1
                have h91 : F8 (91) = ob 7 ([rf G 92, a1, .int (nI (en)), rf G 94, xl, .int (nI (1 + i8)), .int (nI ((A i6 - 48))), .int (fa), .int (fat), .int (nI (who)), .int (nI (d)), .int (nI (rgF ol d)), rf G 95, rf G 96]) := e8
                have h92 := (o8 (92) (by decide)).trans h92
                have h94 := (o8 (94) (by decide)).trans h94
                have h95 := (o8 (95) (by decide)).trans h95
                have h96 := (o8 (96) (by decide)).trans h96
                have hO : ∀ j, j ≠ 91 ∧ j ≠ 92 ∧ j ≠ 94 ∧ j ≠ 95 ∧ j ≠ 96 → F8 j = F j := fun j hj => (o8 j (by omega)).trans (hO j hj)
                refine sx_if_eq X (by decide) (tgt := 114) dX7_takesItem_107 (by decide) (fun h => absurd h (by decide)) (fun _ => ?_)
                refine lv_iconst (v := nI 1) X.1.1 X.1.2.1 dX7_takesItem_110 (by decide) ?_
                refine lv_goto (tgt := 115) X.1.1 X.1.2.1 dX7_takesItem_111 (by decide) ?_
                rw [hQ]
                exact sx_zret X rfl (by decide) hs rfl hP dX7_takesItem_115 (⟨Or.inl ⟨rfl, (comeF w n who s (A i6 - 48), 1 + n, en, jo, 0, s, who, d, ol, ot), 1 + i8, _, by omega, by omega, rfl, (hIT.evn (by omega) (by omega) u2 u1).le (by omega), ⟨h91, h92, h94, h95, h96⟩, ((show goT A len (len - i) (w, n, en, jo, 0, it, who, d, ol, ot) = goT A len (len - (1 + i)) (w, n, en, jo, 1, s, who, d, ol, ot) from by have := goT_go (T := (w, n, en, jo, 0, it, who, d, ol, ot)) hi (tS_item hnb (by omega) (by rw [hsr.1]; omega)); rw [hsr.1] at this; exact this).trans (num_ev sk6 d6a d6b d6c (by omega) (by omega) (by omega) u1 u2)).trans (semi_ok sk8 t1 t2)⟩, hO⟩)
        · refine lv_iconst (v := nI 1) X.1.1 X.1.2.1 dX7_takesItem_82 (by decide) ?_
          refine lv_goto (tgt := 87) X.1.1 X.1.2.1 dX7_takesItem_83 (by decide) ?_
          have hbd : boundF s = 2 := by (unfold boundF; (repeat' split) <;> omega)
          refine sx_cvI (As := [.int (nI 1)]) (rest := []) X (mX7_takesFigure l (A := A) (len := len) (i := 1 + i) (mo := 1) hA (by omega) hl240 (by decide) h91 h92) gX7_takesItem_X7_takesFigure rfl yv_X7_takesFigure ⟨Nat.le_of_ble_eq_true rfl, Nat.le_of_ble_eq_true rfl⟩ h91 (by decide) rfl rfl hl.1 rfl (Nat.le_of_ble_eq_true rfl) dX7_takesItem_87 ⟨Nat.le_of_ble_eq_true rfl, Nat.le_of_ble_eq_true rfl⟩ hs rfl hP (fun r9 F9 H9 l9 hp hP => ?_)
          obtain ⟨i9, sk9, o9, ⟨e9, q1, rfl⟩ | ⟨e9, q1, q2, q3, q4, rfl⟩ | ⟨e9, q1, q2, q3, q4, rfl⟩⟩ := hp
          · have g9a := sk9.1
            have g9b := sk9.2.1
            have h91 : F9 (91) = ob 7 ([rf G 92, a1, .int (nI (en)), rf G 94, xl, .int (nI (i9)), .int (fig), .int (nI 1), .int (nI (i9)), .int (nI (who)), .int (nI (d)), .int (nI (rgF ol d)), rf G 95, rf G 96]) := e9
            have h92 := (o9 (92) (by decide)).trans h92
            have h94 := (o9 (94) (by decide)).trans h94
            have h95 := (o9 (95) (by decide)).trans h95
            have h96 := (o9 (96) (by decide)).trans h96
            have hO : ∀ j, j ≠ 91 ∧ j ≠ 92 ∧ j ≠ 94 ∧ j ≠ 95 ∧ j ≠ 96 → F9 j = F j := fun j hj => (o9 j (by omega)).trans (hO j hj)
            refine sx_if_eq X (by decide) (tgt := 114) dX7_takesItem_90 (by decide) (fun _ => ?_) (fun h => absurd h (by decide))
            refine lv_iconst (v := nI 0) X.1.1 X.1.2.1 dX7_takesItem_114 (by decide) ?_
            rw [hQ]
            exact sx_zret X rfl (by decide) hs rfl hP dX7_takesItem_115 (⟨Or.inr ⟨rfl, (w, n, en, jo, 1, s, who, d, ol, ot), i9, 1, _, by decide, by decide, by omega, hIT.le (by omega), ⟨h91, h92, h94, h95, h96⟩, (show goT A len (len - i) (w, n, en, jo, 0, it, who, d, ol, ot) = goT A len (len - (1 + i)) (w, n, en, jo, 1, s, who, d, ol, ot) from by have := goT_go (T := (w, n, en, jo, 0, it, who, d, ol, ot)) hi (tS_item hnb (by omega) (by rw [hsr.1]; omega)); rw [hsr.1] at this; exact this).trans (num_f1 sk9 q1)⟩, hO⟩)
          · have g9a := sk9.1
            have g9b := sk9.2.1
            have h91 : F9 (91) = ob 7 ([rf G 92, a1, .int (nI (en)), rf G 94, xl, .int (nI (i9)), .int (nI ((A i9 - 48))), .int (nI 2), .int (nI (i9)), .int (nI (who)), .int (nI (d)), .int (nI (rgF ol d)), rf G 95, rf G 96]) := e9
            have h92 := (o9 (92) (by decide)).trans h92
            have h94 := (o9 (94) (by decide)).trans h94
            have h95 := (o9 (95) (by decide)).trans h95
            have h96 := (o9 (96) (by decide)).trans h96
            have hO : ∀ j, j ≠ 91 ∧ j ≠ 92 ∧ j ≠ 94 ∧ j ≠ 95 ∧ j ≠ 96 → F9 j = F j := fun j hj => (o9 j (by omega)).trans (hO j hj)
            refine sx_if_eq X (by decide) (tgt := 114) dX7_takesItem_90 (by decide) (fun _ => ?_) (fun h => absurd h (by decide))
            refine lv_iconst (v := nI 0) X.1.1 X.1.2.1 dX7_takesItem_114 (by decide) ?_
            rw [hQ]
            exact sx_zret X rfl (by decide) hs rfl hP dX7_takesItem_115 (⟨Or.inr ⟨rfl, (w, n, en, jo, 1, s, who, d, ol, ot), i9, 2, _, by decide, by decide, by omega, hIT.le (by omega), ⟨h91, h92, h94, h95, h96⟩, (show goT A len (len - i) (w, n, en, jo, 0, it, who, d, ol, ot) = goT A len (len - (1 + i)) (w, n, en, jo, 1, s, who, d, ol, ot) from by have := goT_go (T := (w, n, en, jo, 0, it, who, d, ol, ot)) hi (tS_item hnb (by omega) (by rw [hsr.1]; omega)); rw [hsr.1] at this; exact this).trans (num_f2 sk9 q1 q2 q3 (by omega))⟩, hO⟩)
          · have g9a := sk9.1
            have g9b := sk9.2.1
            have h91 : F9 (91) = ob 7 ([rf G 92, a1, .int (nI (en)), rf G 94, xl, .int (nI (i9)), .int (nI ((A i9 - 48))), .int (fa), .int (fat), .int (nI (who)), .int (nI (d)), .int (nI (rgF ol d)), rf G 95, rf G 96]) := e9
            have h92 := (o9 (92) (by decide)).trans h92
            have h94 := (o9 (94) (by decide)).trans h94
            have h95 := (o9 (95) (by decide)).trans h95
            have h96 := (o9 (96) (by decide)).trans h96
            have hO : ∀ j, j ≠ 91 ∧ j ≠ 92 ∧ j ≠ 94 ∧ j ≠ 95 ∧ j ≠ 96 → F9 j = F j := fun j hj => (o9 j (by omega)).trans (hO j hj)
            have d9a := q1
            have d9b := q2
            have d9c := q3
            have d9d := q4
            refine sx_if_eq X (by decide) (tgt := 114) dX7_takesItem_90 (by decide) (fun h => absurd h (by decide)) (fun _ => ?_)
            refine lv_aload_n X.1.1 X.1.2.1 dX7_takesItem_93 rfl (lv_at hl 1 rfl) ?_
            refine lv_iload_n X.1.1 X.1.2.1 dX7_takesItem_94 rfl (lv_at hl 0 rfl) ?_
            refine sx_cvI (As := [.int (nI (s))]) (rest := []) X (mX7_did l (n := n) (t := who) (s := s) (x := (A i9 - 48)) (g := rgF ol d) (i := i9) hWF hwho (by omega) (by omega) (by omega) (by omega) (by omega) (by omega) h91n h91 h92) gX7_takesItem_X7_did rfl yv_X7_did ⟨Nat.le_of_ble_eq_true rfl, Nat.le_of_ble_eq_true rfl⟩ h91 (by decide) rfl rfl hl.1 rfl (Nat.le_of_ble_eq_true rfl) dX7_takesItem_95 ⟨Nat.le_of_ble_eq_true rfl, Nat.le_of_ble_eq_true rfl⟩ hs rfl hP (fun r10 F10 H10 l10 hp hP => ?_)
            obtain ⟨o10, ⟨e10, f10, u1, rfl⟩ | ⟨e10, f10, u1, u2, rfl⟩ | ⟨e10, f10, u1, u2, rfl⟩⟩ := hp
            · have h91 : F10 (91) = ob 7 ([rf G 92, a1, .int (nI (en)), rf G 94, xl, .int (nI (i9)), .int (nI ((A i9 - 48))), .int (nI 3), .int (nI (i9)), .int (nI (who)), .int (nI (d)), .int (nI (rgF ol d)), rf G 95, rf G 96]) := e10
              have h92 : F10 (92) = rI G (4358) (w) := f10
              have h94 := (o10 (94) (by decide)).trans h94
              have h95 := (o10 (95) (by decide)).trans h95
              have h96 := (o10 (96) (by decide)).trans h96
              have hO : ∀ j, j ≠ 91 ∧ j ≠ 92 ∧ j ≠ 94 ∧ j ≠ 95 ∧ j ≠ 96 → F10 j = F j := fun j hj => (o10 j (by omega)).trans (hO j hj)
              refine sx_if_eq X (by decide) (tgt := 114) dX7_takesItem_98 (by decide) (fun _ => ?_) (fun h => absurd h (by decide))
              refine lv_iconst (v := nI 0) X.1.1 X.1.2.1 dX7_takesItem_114 (by decide) ?_
              rw [hQ]
              exact sx_zret X rfl (by decide) hs rfl hP dX7_takesItem_115 (⟨Or.inr ⟨rfl, (w, n, en, jo, 1, s, who, d, ol, ot), i9, 3, _, by decide, by decide, by omega, hIT.le (by omega), ⟨h91, h92, h94, h95, h96⟩, (show goT A len (len - i) (w, n, en, jo, 0, it, who, d, ol, ot) = goT A len (len - (1 + i)) (w, n, en, jo, 1, s, who, d, ol, ot) from by have := goT_go (T := (w, n, en, jo, 0, it, who, d, ol, ot)) hi (tS_item hnb (by omega) (by rw [hsr.1]; omega)); rw [hsr.1] at this; exact this).trans (num_f3 sk9 d9a d9b d9c (by omega) (by omega) u1)⟩, hO⟩)
            · have h91 : F10 (91) = ob 7 ([rf G 92, a1, .int (nI (en)), rf G 94, xl, .int (nI (i9)), .int (nI ((A i9 - 48))), .int (nI 4), .int (nI (i9)), .int (nI (who)), .int (nI (d)), .int (nI (rgF ol d)), rf G 95, rf G 96]) := e10
              have h92 : F10 (92) = rI G (4358) (w) := f10
              have h94 := (o10 (94) (by decide)).trans h94
              have h95 := (o10 (95) (by decide)).trans h95
              have h96 := (o10 (96) (by decide)).trans h96
              have hO : ∀ j, j ≠ 91 ∧ j ≠ 92 ∧ j ≠ 94 ∧ j ≠ 95 ∧ j ≠ 96 → F10 j = F j := fun j hj => (o10 j (by omega)).trans (hO j hj)
              refine sx_if_eq X (by decide) (tgt := 114) dX7_takesItem_98 (by decide) (fun _ => ?_) (fun h => absurd h (by decide))
              refine lv_iconst (v := nI 0) X.1.1 X.1.2.1 dX7_takesItem_114 (by decide) ?_
              rw [hQ]
              exact sx_zret X rfl (by decide) hs rfl hP dX7_takesItem_115 (⟨Or.inr ⟨rfl, (w, n, en, jo, 1, s, who, d, ol, ot), i9, 4, _, by decide, by decide, by omega, hIT.le (by omega), ⟨h91, h92, h94, h95, h96⟩, (show goT A len (len - i) (w, n, en, jo, 0, it, who, d, ol, ot) = goT A len (len - (1 + i)) (w, n, en, jo, 1, s, who, d, ol, ot) from by have := goT_go (T := (w, n, en, jo, 0, it, who, d, ol, ot)) hi (tS_item hnb (by omega) (by rw [hsr.1]; omega)); rw [hsr.1] at this; exact this).trans (num_f4 sk9 d9a d9b d9c (by omega) (by omega) u1 u2)⟩, hO⟩)
            · have h91 : F10 (91) = ob 7 ([rf G 92, a1, .int (nI (en)), rf G 94, xl, .int (nI (1 + i9)), .int (nI ((A i9 - 48))), .int (fa), .int (fat), .int (nI (who)), .int (nI (d)), .int (nI (rgF ol d)), rf G 95, rf G 96]) := e10
              have h92 : F10 (92) = rI G (4358) (comeF w n who (s) ((A i9 - 48))) := f10
              have h94 := (o10 (94) (by decide)).trans h94
              have h95 := (o10 (95) (by decide)).trans h95
              have h96 := (o10 (96) (by decide)).trans h96
              have hO : ∀ j, j ≠ 91 ∧ j ≠ 92 ∧ j ≠ 94 ∧ j ≠ 95 ∧ j ≠ 96 → F10 j = F j := fun j hj => (o10 j (by omega)).trans (hO j hj)
              have hm1 : 1 ≤ moreF (s) := by unfold moreF; split <;> omega
              have hA := lt_come (t := who) (s := s) (x := (A i9 - 48)) hWF (by omega) hwho (by omega) (by omega) hA
              refine sx_if_eq X (by decide) (tgt := 114) dX7_takesItem_98 (by decide) (fun h => absurd h (by decide)) (fun _ => ?_)
              refine lv_aload_n X.1.1 X.1.2.1 dX7_takesItem_101 rfl (lv_at hl 1 rfl) ?_
              refine lv_bipush (v := nI 59) X.1.1 X.1.2.1 dX7_takesItem_102 (by decide) ?_
              refine sx_cvI (As := [.int (nI 59)]) (rest := []) X (mX7_takes l (A := A) (len := len) (i := 1 + i9) (c := 59) hA (by omega) hl240 (by decide) h91 h92) gX7_takesItem_X7_takes rfl yv_X7_takes ⟨Nat.le_of_ble_eq_true rfl, Nat.le_of_ble_eq_true rfl⟩ h91 (by decide) rfl rfl hl.1 rfl (Nat.le_of_ble_eq_true rfl) dX7_takesItem_104 ⟨Nat.le_of_ble_eq_true rfl, Nat.le_of_ble_eq_true rfl⟩ hs rfl hP (fun r11 F11 H11 l11 hp hP => ?_)
              obtain ⟨i11, sk11, o11, ⟨e11, t1, rfl⟩ | ⟨e11, t1, t2, rfl⟩⟩ := hp
              · have g11a := sk11.1
                have g11b := sk11.2.1
                have h91 : F11 (91) = ob 7 ([rf G 92, a1, .int (nI (en)), rf G 94, xl, .int (nI (i11)), .int (nI ((A i9 - 48))), .int (nI 1), .int (nI (i11)), .int (nI (who)), .int (nI (d)), .int (nI (rgF ol d)), rf G 95, rf G 96]) := e11
                have h92 := (o11 (92) (by decide)).trans h92
                have h94 := (o11 (94) (by decide)).trans h94
                have h95 := (o11 (95) (by decide)).trans h95
                have h96 := (o11 (96) (by decide)).trans h96
                have hO : ∀ j, j ≠ 91 ∧ j ≠ 92 ∧ j ≠ 94 ∧ j ≠ 95 ∧ j ≠ 96 → F11 j = F j := fun j hj => (o11 j (by omega)).trans (hO j hj)
                refine sx_if_eq X (by decide) (tgt := 114) dX7_takesItem_107 (by decide) (fun _ => ?_) (fun h => absurd h (by decide))
                refine lv_iconst (v := nI 0) X.1.1 X.1.2.1 dX7_takesItem_114 (by decide) ?_
                rw [hQ]
                exact sx_zret X rfl (by decide) hs rfl hP dX7_takesItem_115 (⟨Or.inr ⟨rfl, (comeF w n who s (A i9 - 48), 1 + n, en, jo, 2, s, who, d, ol, ot), i11, 1, _, by decide, by decide, by omega, (hIT.evn (by omega) (by omega) u2 u1).le (by omega), ⟨h91, h92, h94, h95, h96⟩, ((show goT A len (len - i) (w, n, en, jo, 0, it, who, d, ol, ot) = goT A len (len - (1 + i)) (w, n, en, jo, 1, s, who, d, ol, ot) from by have := goT_go (T := (w, n, en, jo, 0, it, who, d, ol, ot)) hi (tS_item hnb (by omega) (by rw [hsr.1]; omega)); rw [hsr.1] at this; exact this).trans (num_ev sk9 d9a d9b d9c (by omega) (by omega) (by omega) u1 u2)).trans (semi_f sk11 t1)⟩, hO⟩)
              · have g11a := sk11.1
                have g11b := sk11.2.1
                have h91 : F11 (91) = ob 7 ([rf G 92, a1, .int (nI (en)), rf G 94, xl, .int (nI (1 + i11)), .int (nI ((A i9 - 48))), .int (fa), .int (fat), .int (nI (who)), .int (nI (d)), .int (nI (rgF ol d)), rf G 95, rf G 96]) := e11
                have h92 := (o11 (92) (by decide)).trans h92
                have h94 := (o11 (94) (by decide)).trans h94
                have h95 := (o11 (95) (by decide)).trans h95
                have h96 := (o11 (96) (by decide)).trans h96
                have hO : ∀ j, j ≠ 91 ∧ j ≠ 92 ∧ j ≠ 94 ∧ j ≠ 95 ∧ j ≠ 96 → F11 j = F j := fun j hj => (o11 j (by omega)).trans (hO j hj)
                refine sx_if_eq X (by decide) (tgt := 114) dX7_takesItem_107 (by decide) (fun h => absurd h (by decide)) (fun _ => ?_)
                refine lv_iconst (v := nI 1) X.1.1 X.1.2.1 dX7_takesItem_110 (by decide) ?_
                refine lv_goto (tgt := 115) X.1.1 X.1.2.1 dX7_takesItem_111 (by decide) ?_
                rw [hQ]
                exact sx_zret X rfl (by decide) hs rfl hP dX7_takesItem_115 (⟨Or.inl ⟨rfl, (comeF w n who s (A i9 - 48), 1 + n, en, jo, 0, s, who, d, ol, ot), 1 + i11, _, by omega, by omega, rfl, (hIT.evn (by omega) (by omega) u2 u1).le (by omega), ⟨h91, h92, h94, h95, h96⟩, ((show goT A len (len - i) (w, n, en, jo, 0, it, who, d, ol, ot) = goT A len (len - (1 + i)) (w, n, en, jo, 1, s, who, d, ol, ot) from by have := goT_go (T := (w, n, en, jo, 0, it, who, d, ol, ot)) hi (tS_item hnb (by omega) (by rw [hsr.1]; omega)); rw [hsr.1] at this; exact this).trans (num_ev sk9 d9a d9b d9c (by omega) (by omega) (by omega) u1 u2)).trans (semi_ok sk11 t1 t2)⟩, hO⟩)
    · refine lv_istore_n (lv' := [(2, .int (-1)), (0, rf G 91), (1, .int (nI (A i)))]) X.1.1 X.1.2.1 dX7_takesItem_15 rfl hl (by decide) rfl (fun ls hl => ?_)
      refine lv_iload_n X.1.1 X.1.2.1 dX7_takesItem_16 rfl (lv_at hl 2 rfl) ?_
      refine lv_bipush (v := nI 116) X.1.1 X.1.2.1 dX7_takesItem_17 (by decide) ?_
      refine sx_icmp_eq X (by omega) (by decide) (tgt := 39) dX7_takesItem_19 (by decide) (fun c19 => ?_) (fun c19 => ?_)
      · refine lv_aload_n X.1.1 X.1.2.1 dX7_takesItem_39 rfl (lv_at hl 1 rfl) ?_
        refine lv_dup X.1.1 X.1.2.1 dX7_takesItem_40 rfl ?_
        refine sx_get X hP in_X7_takesItem_X7 h91 (by decide) rfl 5 (by decide) lk_X7_takesItem_fieldLink_RX7_133_RaceWatchModel_at_I rfl dX7_takesItem_41 ?_
        refine lv_iconst (v := nI 1) X.1.1 X.1.2.1 dX7_takesItem_44 (by decide) ?_
        refine sx_addN X (1 + i) (by omega) dX7_takesItem_45 ?_
        refine sx_put X hP in_X7_takesItem_X7 tyX7 tyX7_ok nmX7 h91 (by decide) rfl 5 (by decide) lk_X7_takesItem_fieldLink_RX7_133_RaceWatchModel_at_I rfl rfl rfl (Nat.le_of_ble_eq_true rfl) dX7_takesItem_46 (fun F12 H12 l12 e12 o12 hP => ?_)
        have h91 : F12 (91) = ob 7 ([rf G 92, a1, .int (nI (en)), rf G 94, xl, .int (nI (1 + i)), .int (fig), .int (fa), .int (fat), .int (nI (who)), .int (nI (d)), .int (nI (rgF ol d)), rf G 95, rf G 96]) := e12
        have h92 := (o12 (92) (by decide)).trans h92
        have h94 := (o12 (94) (by decide)).trans h94
        have h95 := (o12 (95) (by decide)).trans h95
        have h96 := (o12 (96) (by decide)).trans h96
        have hO : ∀ j, j ≠ 91 ∧ j ≠ 92 ∧ j ≠ 94 ∧ j ≠ 95 ∧ j ≠ 96 → F12 j = F j := fun j hj => (o12 j (by omega)).trans (hO j hj)
        refine lv_iload_n X.1.1 X.1.2.1 dX7_takesItem_49 rfl (lv_at hl 2 rfl) ?_
        refine lv_bipush (v := nI 108) X.1.1 X.1.2.1 dX7_takesItem_50 (by decide) ?_
        refine sx_icmp_ne X (by omega) (by decide) (tgt := 60) dX7_takesItem_52 (by decide) (fun c52 => ?_) (fun c52 => absurd c52 (by omega))
        refine lv_iload_n X.1.1 X.1.2.1 dX7_takesItem_60 rfl (lv_at hl 2 rfl) ?_
        refine lv_bipush (v := nI 116) X.1.1 X.1.2.1 dX7_takesItem_61 (by decide) ?_
        refine sx_icmp_ne X (by omega) (by decide) (tgt := 71) dX7_takesItem_63 (by decide) (fun c63 => absurd c63 (by omega)) (fun c63 => ?_)
        refine lv_aload_n X.1.1 X.1.2.1 dX7_takesItem_66 rfl (lv_at hl 1 rfl) ?_
        refine sx_cvI (As := []) (rest := []) X (mX7_takesTurn l (A := A) (len := len) (i := 1 + i) (it := 0) (hIT.le (by omega)).due (by omega) h91 h92 h94 h95 h96) gX7_takesItem_X7_takesTurn rfl yv_X7_takesTurn ⟨Nat.le_of_ble_eq_true rfl, Nat.le_of_ble_eq_true rfl⟩ h91 (by decide) rfl rfl hl.1 rfl (Nat.le_of_ble_eq_true rfl) dX7_takesItem_67 ⟨Nat.le_of_ble_eq_true rfl, Nat.le_of_ble_eq_true rfl⟩ hs rfl hP (fun r13 F13 H13 l13 hp hP => ?_)
        obtain ⟨hdn, o13⟩ := hp
        have hO : ∀ j, j ≠ 91 ∧ j ≠ 92 ∧ j ≠ 94 ∧ j ≠ 95 ∧ j ≠ 96 → F13 j = F j := fun j hj => (o13 j hj).trans (hO j hj)
        rcases id hdn with ⟨rfl, hdd⟩ | ⟨rfl, hdd⟩
        · rw [hQ]
          exact sx_zret X rfl (by decide) hs rfl hP dX7_takesItem_70 (⟨done_pre (by omega) (goT_go hi (by rw [c19]; exact tS_item (by decide) (by omega) (by decide))) hdn, hO⟩)
        · rw [hQ]
          exact sx_zret X rfl (by decide) hs rfl hP dX7_takesItem_70 (⟨done_pre (by omega) (goT_go hi (by rw [c19]; exact tS_item (by decide) (by omega) (by decide))) hdn, hO⟩)
      · refine lv_iload_n X.1.1 X.1.2.1 dX7_takesItem_22 rfl (lv_at hl 2 rfl) ?_
        refine lv_bipush (v := nI 108) X.1.1 X.1.2.1 dX7_takesItem_23 (by decide) ?_
        refine sx_icmp_eq X (by omega) (by decide) (tgt := 39) dX7_takesItem_25 (by decide) (fun c25 => ?_) (fun c25 => ?_)
        · refine lv_aload_n X.1.1 X.1.2.1 dX7_takesItem_39 rfl (lv_at hl 1 rfl) ?_
          refine lv_dup X.1.1 X.1.2.1 dX7_takesItem_40 rfl ?_
          refine sx_get X hP in_X7_takesItem_X7 h91 (by decide) rfl 5 (by decide) lk_X7_takesItem_fieldLink_RX7_133_RaceWatchModel_at_I rfl dX7_takesItem_41 ?_
          refine lv_iconst (v := nI 1) X.1.1 X.1.2.1 dX7_takesItem_44 (by decide) ?_
          refine sx_addN X (1 + i) (by omega) dX7_takesItem_45 ?_
          refine sx_put X hP in_X7_takesItem_X7 tyX7 tyX7_ok nmX7 h91 (by decide) rfl 5 (by decide) lk_X7_takesItem_fieldLink_RX7_133_RaceWatchModel_at_I rfl rfl rfl (Nat.le_of_ble_eq_true rfl) dX7_takesItem_46 (fun F14 H14 l14 e14 o14 hP => ?_)
          have h91 : F14 (91) = ob 7 ([rf G 92, a1, .int (nI (en)), rf G 94, xl, .int (nI (1 + i)), .int (fig), .int (fa), .int (fat), .int (nI (who)), .int (nI (d)), .int (nI (rgF ol d)), rf G 95, rf G 96]) := e14
          have h92 := (o14 (92) (by decide)).trans h92
          have h94 := (o14 (94) (by decide)).trans h94
          have h95 := (o14 (95) (by decide)).trans h95
          have h96 := (o14 (96) (by decide)).trans h96
          have hO : ∀ j, j ≠ 91 ∧ j ≠ 92 ∧ j ≠ 94 ∧ j ≠ 95 ∧ j ≠ 96 → F14 j = F j := fun j hj => (o14 j (by omega)).trans (hO j hj)
          refine lv_iload_n X.1.1 X.1.2.1 dX7_takesItem_49 rfl (lv_at hl 2 rfl) ?_
          refine lv_bipush (v := nI 108) X.1.1 X.1.2.1 dX7_takesItem_50 (by decide) ?_
          refine sx_icmp_ne X (by omega) (by decide) (tgt := 60) dX7_takesItem_52 (by decide) (fun c52 => absurd c52 (by omega)) (fun c52 => ?_)
          refine lv_aload_n X.1.1 X.1.2.1 dX7_takesItem_55 rfl (lv_at hl 1 rfl) ?_
          refine sx_cvI (As := []) (rest := []) X (mX7_takesRegion l (A := A) (len := len) (i := 1 + i) (it := 0) (hIT.le (by omega)).due (by omega) h91 h92 h94 h95 h96) gX7_takesItem_X7_takesRegion rfl yv_X7_takesRegion ⟨Nat.le_of_ble_eq_true rfl, Nat.le_of_ble_eq_true rfl⟩ h91 (by decide) rfl rfl hl.1 rfl (Nat.le_of_ble_eq_true rfl) dX7_takesItem_56 ⟨Nat.le_of_ble_eq_true rfl, Nat.le_of_ble_eq_true rfl⟩ hs rfl hP (fun r15 F15 H15 l15 hp hP => ?_)
          obtain ⟨hdn, o15⟩ := hp
          have hO : ∀ j, j ≠ 91 ∧ j ≠ 92 ∧ j ≠ 94 ∧ j ≠ 95 ∧ j ≠ 96 → F15 j = F j := fun j hj => (o15 j hj).trans (hO j hj)
          rcases id hdn with ⟨rfl, hdd⟩ | ⟨rfl, hdd⟩
          · rw [hQ]
            exact sx_zret X rfl (by decide) hs rfl hP dX7_takesItem_59 (⟨done_pre (by omega) (goT_go hi (by rw [c25]; exact tS_item (by decide) (by omega) (by decide))) hdn, hO⟩)
          · rw [hQ]
            exact sx_zret X rfl (by decide) hs rfl hP dX7_takesItem_59 (⟨done_pre (by omega) (goT_go hi (by rw [c25]; exact tS_item (by decide) (by omega) (by decide))) hdn, hO⟩)
        · refine lv_iload_n X.1.1 X.1.2.1 dX7_takesItem_28 rfl (lv_at hl 0 rfl) ?_
          refine lv_iconst (v := (-1)) X.1.1 X.1.2.1 dX7_takesItem_29 (by decide) ?_
          refine lv_icmp_ne X.1.1 X.1.2.1 (tgt := 39) dX7_takesItem_30 (by decide) (fun h => absurd rfl h) (fun _ => ?_)
          have hno9 : itF (A i) = 9 := by rcases hno with q | q | q; exact q; exact absurd q c25; exact absurd q c19
          refine lv_aload_n X.1.1 X.1.2.1 dX7_takesItem_33 rfl (lv_at hl 1 rfl) ?_
          refine lv_iconst (v := nI 1) X.1.1 X.1.2.1 dX7_takesItem_34 (by decide) ?_
          refine sx_cvI (As := [.int (nI 1)]) (rest := []) X (mX7_fails l (i := i) (f := 1) h91) gX7_takesItem_X7_fails rfl yv_X7_fails ⟨Nat.le_of_ble_eq_true rfl, Nat.le_of_ble_eq_true rfl⟩ h91 (by decide) rfl rfl hl.1 rfl (Nat.le_of_ble_eq_true rfl) dX7_takesItem_35 ⟨Nat.le_of_ble_eq_true rfl, Nat.le_of_ble_eq_true rfl⟩ hs rfl hP (fun r16 F16 H16 l16 hp hP => ?_)
          obtain ⟨e16, o16, rfl⟩ := hp
          have h91 : F16 (91) = ob 7 ([rf G 92, a1, .int (nI (en)), rf G 94, xl, .int (nI (i)), .int (fig), .int (nI 1), .int (nI (i)), .int (nI (who)), .int (nI (d)), .int (nI (rgF ol d)), rf G 95, rf G 96]) := e16
          have h92 := (o16 (92) (by decide)).trans h92
          have h94 := (o16 (94) (by decide)).trans h94
          have h95 := (o16 (95) (by decide)).trans h95
          have h96 := (o16 (96) (by decide)).trans h96
          have hO : ∀ j, j ≠ 91 ∧ j ≠ 92 ∧ j ≠ 94 ∧ j ≠ 95 ∧ j ≠ 96 → F16 j = F j := fun j hj => (o16 j (by omega)).trans (hO j hj)
          rw [hQ]
          exact sx_zret X rfl (by decide) hs rfl hP dX7_takesItem_38 (⟨Or.inr ⟨rfl, (w, n, en, jo, 0, it, who, d, ol, ot), i, 1, _, by decide, by decide, by omega, hIT, ⟨h91, h92, h94, h95, h96⟩, goT_fault hi (tS_none hnb (by omega) hno9) (by decide)⟩, hO⟩)
  · refine lv_aload_n X.1.1 X.1.2.1 dX7_takesItem_6 rfl (lv_at hl 0 rfl) ?_
    refine sx_cvI (As := []) (rest := []) X (mX7_takesEnd l (A := A) (len := len) (i := i) hIT hi c3 h91 h92 h94 h95 h96) gX7_takesItem_X7_takesEnd rfl yv_X7_takesEnd ⟨Nat.le_of_ble_eq_true rfl, Nat.le_of_ble_eq_true rfl⟩ h91 (by decide) rfl rfl hl.1 rfl (Nat.le_of_ble_eq_true rfl) dX7_takesItem_7 ⟨Nat.le_of_ble_eq_true rfl, Nat.le_of_ble_eq_true rfl⟩ hs rfl hP (fun r17 F17 H17 l17 hp hP => ?_)
    obtain ⟨hdn, o17⟩ := hp
    have hO : ∀ j, j ≠ 91 ∧ j ≠ 92 ∧ j ≠ 94 ∧ j ≠ 95 ∧ j ≠ 96 → F17 j = F j := fun j hj => (o17 j hj).trans (hO j hj)
    rcases id hdn with ⟨rfl, hdd⟩ | ⟨rfl, hdd⟩
    · rw [hQ]
      exact sx_zret X rfl (by decide) hs rfl hP dX7_takesItem_10 (⟨hdn, hO⟩)
    · rw [hQ]
      exact sx_zret X rfl (by decide) hs rfl hP dX7_takesItem_10 (⟨hdn, hO⟩)
