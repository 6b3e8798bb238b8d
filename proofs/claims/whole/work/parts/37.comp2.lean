theorem upd_at {f : Nat → Int32} {t k : Nat} {x : Int32} : upd f t x k = if k = t then x else f k := rfl
theorem upd_sh {w : Nat → Int32} {b t k : Nat} {x : Int32} : upd w (b + t) x (b + k) = if k = t then x else w (b + k) := by
  by_cases e : k = t
  · rw [if_pos e, e, pk_us]
  · rw [if_neg e, pk_un (by omega)]
theorem promF_num {w : Nat → Int32} {t c v k : Nat} (ht : t < 4) (hv : v < 4) (hk : k < 4) : promF w t c v (48 + 12 * c + k) = if k = t then w (4 + 5 * t) else if k = v then w (46 + 12 * c) else w (48 + 12 * c + k) := by
  show upd (upd (upd (upd (upd (upd w (47 + 12 * c) (nI 1)) (48 + 12 * c + v) (upd w (47 + 12 * c) (nI 1) (46 + 12 * c))) (48 + 12 * c + t) (upd (upd w (47 + 12 * c) (nI 1)) (48 + 12 * c + v) (upd w (47 + 12 * c) (nI 1) (46 + 12 * c)) (4 + 5 * t))) (45 + 12 * c) _) (46 + 12 * c) _) (52 + 12 * c) _ (48 + 12 * c + k) = _
  rw [pk_un (by omega), pk_un (by omega), pk_un (by omega), upd_sh]
  by_cases e : k = t
  · rw [if_pos e, if_pos e, pk_un (by omega), pk_un (by omega)]
  · rw [if_neg e, if_neg e, upd_sh]
    by_cases e2 : k = v
    · rw [if_pos e2, if_pos e2, pk_un (by omega)]
    · rw [if_neg e2, if_neg e2, pk_un (by omega)]
theorem promF_flds {w : Nat → Int32} {t c v : Nat} (ht : t < 4) (hv : v < 4) : promF w t c v (43 + 12 * c) = w (43 + 12 * c) ∧ promF w t c v (44 + 12 * c) = w (44 + 12 * c) ∧ promF w t c v (45 + 12 * c) = -1 ∧ promF w t c v (46 + 12 * c) = nI 0 ∧ promF w t c v (47 + 12 * c) = nI 1 ∧ promF w t c v (52 + 12 * c) = w (52 + 12 * c) + nI 1 ∧ promF w t c v (53 + 12 * c) = w (53 + 12 * c) ∧ promF w t c v (54 + 12 * c) = w (54 + 12 * c) := by
  unfold promF
  refine ⟨?_, ?_, ?_, ?_, ?_, ?_, ?_, ?_⟩
  · rw [pk_un (by omega), pk_un (by omega), pk_un (by omega), pk_un (by omega), pk_un (by omega), pk_un (by omega)]
  · rw [pk_un (by omega), pk_un (by omega), pk_un (by omega), pk_un (by omega), pk_un (by omega), pk_un (by omega)]
  · rw [pk_un (by omega), pk_un (by omega), pk_us]
  · rw [pk_un (by omega), pk_us]
  · rw [pk_un (by omega), pk_un (by omega), pk_un (by omega), pk_un (by omega), pk_un (by omega), pk_us]
  · rw [pk_us, pk_un (by omega), pk_un (by omega), pk_un (by omega), pk_un (by omega), pk_un (by omega)]
  · rw [pk_un (by omega), pk_un (by omega), pk_un (by omega), pk_un (by omega), pk_un (by omega), pk_un (by omega)]
  · rw [pk_un (by omega), pk_un (by omega), pk_un (by omega), pk_un (by omega), pk_un (by omega), pk_un (by omega)]
theorem ys_X2_readsAreAhead : yX2_readsAreAhead.cls ≠ "java/lang/invoke/MethodHandle" ∧ yX2_readsAreAhead.cls ≠ "java/lang/invoke/VarHandle" ∧ (parseMethodDescriptor yX2_readsAreAhead.desc).map (fun d => d.parameters.length) = some 2 := by decide +kernel
theorem yv_X2_readsAreAhead : yX2_readsAreAhead.cls = RX2 ∧ yX2_readsAreAhead.cls ≠ "java/lang/invoke/MethodHandle" ∧ yX2_readsAreAhead.cls ≠ "java/lang/invoke/VarHandle" ∧ (parseMethodDescriptor yX2_readsAreAhead.desc).map (fun d => d.parameters.length) = some 2 := ⟨rfl, ys_X2_readsAreAhead⟩
theorem in_X2_readsAreAhead_X2 : ∀ w ∈ wsX20, w ∈ wsX2_readsAreAhead := fun _ h => List.mem_cons_of_mem _ (List.mem_append_left _ (List.mem_append_right _ (h)))
theorem lk_X2_readsAreAhead_fieldLink_RX2_43_RaceWatch_Kept_isShared_Z : (.fieldLink RX2 43 "RaceWatch$Kept" "isShared" "Z" : Cond) ∈ wsX2_readsAreAhead := List.mem_cons_of_mem _ (List.mem_append_left _ (List.mem_append_left _ (List.mem_of_getElem? (i := 0) rfl)))
theorem lk_X2_readsAreAhead_fieldLink_RX2_37_RaceWatch_Kept_reader_I : (.fieldLink RX2 37 "RaceWatch$Kept" "reader" "I" : Cond) ∈ wsX2_readsAreAhead := List.mem_cons_of_mem _ (List.mem_append_left _ (List.mem_append_left _ (List.mem_of_getElem? (i := 1) rfl)))
theorem lk_X2_readsAreAhead_fieldLink_RX2_40_RaceWatch_Kept_readNumber_I : (.fieldLink RX2 40 "RaceWatch$Kept" "readNumber" "I" : Cond) ∈ wsX2_readsAreAhead := List.mem_cons_of_mem _ (List.mem_append_left _ (List.mem_append_left _ (List.mem_of_getElem? (i := 2) rfl)))
theorem lk_X2_readsAreAhead_fieldLink_RX2_9_RaceWatch_Kept_readNumbers_I : (.fieldLink RX2 9 "RaceWatch$Kept" "readNumbers" "[I" : Cond) ∈ wsX2_readsAreAhead := List.mem_cons_of_mem _ (List.mem_append_left _ (List.mem_append_left _ (List.mem_of_getElem? (i := 3) rfl)))
abbrev rmX2_readsAreAhead : Room := { frames := 1, cells := 0, slots := 0, locals := 22 }
set_option maxHeartbeats 800000 in
set_option maxRecDepth 100000 in
theorem mX2_readsAreAhead {G : sx_G} (l : Launch) {F : Nat → va_E} {n ki kj ci cj t c : Nat} {rr : Value} {w nr g : Nat → Int32} {gd : Int32}  (lki : ki < n) (lkj : kj < n) (lci : ci < n) (lcj : cj < n) (m1 : ki ≠ kj) (m2 : ci ≠ ki) (m3 : ci ≠ kj) (m4 : cj ≠ ki) (m5 : cj ≠ kj) (m6 : ci ≠ cj) (ht : t < 4) (hc : c < 4) (hok : okC w c) (hnr : ∀ k, k < 4 → nr k = w (48 + 12 * c + k)) (hg : ∀ k, k < 16 → g k = w (4 + k)) (hki : F (ki) = ob 2 ([.int (w (43 + 12 * c)), .int (w (44 + 12 * c)), .int (w (45 + 12 * c)), .int (w (46 + 12 * c)), .int (w (47 + 12 * c)), rf G (kj), .int (w (52 + 12 * c)), .int (w (53 + 12 * c)), .int (w (54 + 12 * c)), .int (gd)])) (hkj : F (kj) = rI G (4) (nr)) (hci : F (ci) = ob 1 ([rr, rf G (cj)])) (hcj : F (cj) = rI G (16) (g)) : sx_I G l yX2_readsAreAhead wsX2_readsAreAhead rmX2_readsAreAhead [rf G (ki), rf G (ci), .int (nI (t))] (n) F (n) (fun r F1 => F = F1 ∧ ((rdA w t c) ∧ nI 1 = r ∨ ¬ (rdA w t c) ∧ nI 0 = r)) := by
  refine sx_enter (cc := cX2_readsAreAhead) (maxL := 4) (ret := some .boolean) (own := RX2) (nm := "readsAreAhead") (by decide) rfl rfl rfl (Nat.le_of_ble_eq_true rfl) ?_
  intro pp ee ss mm args below meth kc ls Q hQ X hs hP hl
  have hl : lv_has ls 4 [(0, rf G (ki)), (1, rf G (ci)), (2, .int (nI (t)))] := hl
  have hnr0 : nr 0 = w (48 + 12 * c) := (hnr 0 (by decide)).trans (congrArg w (by omega))
  have hnr1 : nr 1 = w (49 + 12 * c) := (hnr 1 (by decide)).trans (congrArg w (by omega))
  have hnr2 : nr 2 = w (50 + 12 * c) := (hnr 2 (by decide)).trans (congrArg w (by omega))
  have hnr3 : nr 3 = w (51 + 12 * c) := (hnr 3 (by decide)).trans (congrArg w (by omega))
  rcases hok.2.2 with hSh | ⟨hSh, hDd⟩
  · rcases hok.2.1 with hDd | ⟨v, hv, hDd⟩
    · refine lv_aload_n X.1.1 X.1.2.1 dX2_readsAreAhead_0 rfl (lv_at hl 0 rfl) ?_
      refine sx_get X hP in_X2_readsAreAhead_X2 hki (by omega) rfl 4 (by decide) lk_X2_readsAreAhead_fieldLink_RX2_43_RaceWatch_Kept_isShared_Z rfl dX2_readsAreAhead_1 ?_
      rw [hSh]
      refine sx_if_ne X (by decide) (tgt := 37) dX2_readsAreAhead_4 (by decide) (fun h => absurd h (by decide)) (fun _ => ?_)
      refine lv_aload_n X.1.1 X.1.2.1 dX2_readsAreAhead_7 rfl (lv_at hl 0 rfl) ?_
      refine sx_get X hP in_X2_readsAreAhead_X2 hki (by omega) rfl 2 (by decide) lk_X2_readsAreAhead_fieldLink_RX2_37_RaceWatch_Kept_reader_I rfl dX2_readsAreAhead_8 ?_
      rw [hDd]
      refine lv_iconst (v := (-1)) X.1.1 X.1.2.1 dX2_readsAreAhead_11 (by decide) ?_
      refine lv_icmp_eq X.1.1 X.1.2.1 (tgt := 31) dX2_readsAreAhead_12 (by decide) (fun _ => ?_) (fun h => absurd rfl h)
      refine lv_iconst (v := nI 1) X.1.1 X.1.2.1 dX2_readsAreAhead_31 (by decide) ?_
      refine lv_goto (tgt := 36) X.1.1 X.1.2.1 dX2_readsAreAhead_32 (by decide) ?_
      rw [hQ]
      exact sx_zret X rfl (by decide) hs rfl hP dX2_readsAreAhead_36 (⟨rfl, Or.inl ⟨fun q => by rcases q with q | ⟨q, _⟩; (rw [hDd] at q; exact notA_no q); (rw [hSh] at q; exact absurd q (by decide)), rfl⟩⟩)
    · refine lv_aload_n X.1.1 X.1.2.1 dX2_readsAreAhead_0 rfl (lv_at hl 0 rfl) ?_
      refine sx_get X hP in_X2_readsAreAhead_X2 hki (by omega) rfl 4 (by decide) lk_X2_readsAreAhead_fieldLink_RX2_43_RaceWatch_Kept_isShared_Z rfl dX2_readsAreAhead_1 ?_
      rw [hSh]
      refine sx_if_ne X (by decide) (tgt := 37) dX2_readsAreAhead_4 (by decide) (fun h => absurd h (by decide)) (fun _ => ?_)
      refine lv_aload_n X.1.1 X.1.2.1 dX2_readsAreAhead_7 rfl (lv_at hl 0 rfl) ?_
      refine sx_get X hP in_X2_readsAreAhead_X2 hki (by omega) rfl 2 (by decide) lk_X2_readsAreAhead_fieldLink_RX2_37_RaceWatch_Kept_reader_I rfl dX2_readsAreAhead_8 ?_
      rw [hDd]
      refine lv_iconst (v := (-1)) X.1.1 X.1.2.1 dX2_readsAreAhead_11 (by decide) ?_
      refine lv_icmp_eq X.1.1 X.1.2.1 (tgt := 31) dX2_readsAreAhead_12 (by decide) (fun h => absurd h (sx_m1 (by omega))) (fun _ => ?_)
      refine lv_aload_n X.1.1 X.1.2.1 dX2_readsAreAhead_15 rfl (lv_at hl 1 rfl) ?_
      refine lv_iload_n X.1.1 X.1.2.1 dX2_readsAreAhead_16 rfl (lv_at hl 2 rfl) ?_
      refine lv_aload_n X.1.1 X.1.2.1 dX2_readsAreAhead_17 rfl (lv_at hl 0 rfl) ?_
      refine sx_get X hP in_X2_readsAreAhead_X2 hki (by omega) rfl 2 (by decide) lk_X2_readsAreAhead_fieldLink_RX2_37_RaceWatch_Kept_reader_I rfl dX2_readsAreAhead_18 ?_
      rw [hDd]
      refine sx_cvI (As := [.int (nI (t)), .int (nI (v))]) (rest := []) X (mX1_number l (ci := ci) (cj := cj) (L := 16) (row := t) (t := v) (by omega) (by omega) (by decide) (by omega) (by omega) hci hcj) gX2_readsAreAhead_X1_number rfl yv_X1_number ⟨Nat.le_of_ble_eq_true rfl, Nat.le_of_ble_eq_true rfl⟩ hci (by omega) rfl rfl hl.1 rfl (Nat.le_of_ble_eq_true rfl) dX2_readsAreAhead_21 ⟨Nat.le_of_ble_eq_true rfl, Nat.le_of_ble_eq_true rfl⟩ hs rfl hP (fun r1 F1 H1 l1 hp hP => ?_)
      obtain ⟨rfl, rfl⟩ := hp
      rw [show g (4 * t + v) = w (4 + 4 * t + v) from (hg _ (by omega)).trans (congrArg w (by omega))]
      refine lv_aload_n X.1.1 X.1.2.1 dX2_readsAreAhead_24 rfl (lv_at hl 0 rfl) ?_
      refine sx_get X hP in_X2_readsAreAhead_X2 hki (by omega) rfl 3 (by decide) lk_X2_readsAreAhead_fieldLink_RX2_40_RaceWatch_Kept_readNumber_I rfl dX2_readsAreAhead_25 ?_
      refine lv_icmp_lt X.1.1 X.1.2.1 (tgt := 35) dX2_readsAreAhead_28 (by decide) (fun c28 => ?_) (fun c28 => ?_)
      · refine lv_iconst (v := nI 0) X.1.1 X.1.2.1 dX2_readsAreAhead_35 (by decide) ?_
        rw [hQ]
        exact sx_zret X rfl (by decide) hs rfl hP dX2_readsAreAhead_36 (⟨rfl, Or.inr ⟨fun q => q (Or.inl (by rw [hDd]; exact (notA_nI hv).mpr c28)), rfl⟩⟩)
      · refine lv_iconst (v := nI 1) X.1.1 X.1.2.1 dX2_readsAreAhead_31 (by decide) ?_
        refine lv_goto (tgt := 36) X.1.1 X.1.2.1 dX2_readsAreAhead_32 (by decide) ?_
        rw [hQ]
        exact sx_zret X rfl (by decide) hs rfl hP dX2_readsAreAhead_36 (⟨rfl, Or.inl ⟨fun q => by rcases q with q | ⟨q, _⟩; (rw [hDd] at q; exact c28 ((notA_nI hv).mp q)); (rw [hSh] at q; exact absurd q (by decide)), rfl⟩⟩)
  · refine lv_aload_n X.1.1 X.1.2.1 dX2_readsAreAhead_0 rfl (lv_at hl 0 rfl) ?_
    refine sx_get X hP in_X2_readsAreAhead_X2 hki (by omega) rfl 4 (by decide) lk_X2_readsAreAhead_fieldLink_RX2_43_RaceWatch_Kept_isShared_Z rfl dX2_readsAreAhead_1 ?_
    rw [hSh]
    refine sx_if_ne X (by decide) (tgt := 37) dX2_readsAreAhead_4 (by decide) (fun _ => ?_) (fun h => absurd h (by decide))
    refine lv_iconst (v := nI 0) X.1.1 X.1.2.1 dX2_readsAreAhead_37 (by decide) ?_
    refine lv_istore_n (lv' := [(3, .int (nI 0)), (0, rf G (ki)), (1, rf G (ci)), (2, .int (nI (t)))]) X.1.1 X.1.2.1 dX2_readsAreAhead_38 rfl hl (by decide) rfl (fun ls hl => ?_)
    refine lv_iload_n X.1.1 X.1.2.1 dX2_readsAreAhead_39 rfl (lv_at hl 0 rfl) ?_
    refine lv_iconst (v := nI 4) X.1.1 X.1.2.1 dX2_readsAreAhead_40 (by decide) ?_
    refine sx_icmp_ge X (by decide) (by decide) (tgt := 67) dX2_readsAreAhead_41 (by decide) (fun h => absurd h (by decide)) (fun _ => ?_)
    refine lv_aload_n X.1.1 X.1.2.1 dX2_readsAreAhead_44 rfl (lv_at hl 2 rfl) ?_
    refine lv_iload_n X.1.1 X.1.2.1 dX2_readsAreAhead_45 rfl (lv_at hl 3 rfl) ?_
    refine lv_iload_n X.1.1 X.1.2.1 dX2_readsAreAhead_46 rfl (lv_at hl 0 rfl) ?_
    refine sx_cvI (As := [.int (nI (t)), .int (nI 0)]) (rest := []) X (mX1_number l (ci := ci) (cj := cj) (L := 16) (row := t) (t := 0) (by omega) (by omega) (by decide) (by omega) (by omega) hci hcj) gX2_readsAreAhead_X1_number rfl yv_X1_number ⟨Nat.le_of_ble_eq_true rfl, Nat.le_of_ble_eq_true rfl⟩ hci (by omega) rfl rfl hl.1 rfl (Nat.le_of_ble_eq_true rfl) dX2_readsAreAhead_47 ⟨Nat.le_of_ble_eq_true rfl, Nat.le_of_ble_eq_true rfl⟩ hs rfl hP (fun r2 F2 H2 l2 hp hP => ?_)
    obtain ⟨rfl, rfl⟩ := hp
    rw [show g (4 * t + 0) = w (4 + 4 * t) from (hg _ (by omega)).trans (congrArg w (by omega))]
    refine lv_aload_n X.1.1 X.1.2.1 dX2_readsAreAhead_50 rfl (lv_at hl 1 rfl) ?_
    refine sx_get X hP in_X2_readsAreAhead_X2 hki (by omega) rfl 5 (by decide) lk_X2_readsAreAhead_fieldLink_RX2_9_RaceWatch_Kept_readNumbers_I rfl dX2_readsAreAhead_51 ?_
    refine lv_iload_n X.1.1 X.1.2.1 dX2_readsAreAhead_54 rfl (lv_at hl 0 rfl) ?_
    refine sx_ald X hP hkj (by omega) (0) (by decide) (by decide) dX2_readsAreAhead_55 ?_
    rw [hnr0]
    refine lv_icmp_ge X.1.1 X.1.2.1 (tgt := 61) dX2_readsAreAhead_56 (by decide) (fun c56 => ?_) (fun c56 => ?_)
    · refine lv_iinc (v := (nI (1))) (lv' := [(3, .int (nI 1)), (0, rf G (ki)), (1, rf G (ci)), (2, .int (nI (t)))]) X.1.1 X.1.2.1 dX2_readsAreAhead_61 hl (k := 0) rfl (by decide) (by decide) rfl (fun ls hl => ?_)
      refine lv_goto (tgt := 39) X.1.1 X.1.2.1 dX2_readsAreAhead_64 (by decide) ?_
      refine lv_iload_n X.1.1 X.1.2.1 dX2_readsAreAhead_39 rfl (lv_at hl 0 rfl) ?_
      refine lv_iconst (v := nI 4) X.1.1 X.1.2.1 dX2_readsAreAhead_40 (by decide) ?_
      refine sx_icmp_ge X (by decide) (by decide) (tgt := 67) dX2_readsAreAhead_41 (by decide) (fun h => absurd h (by decide)) (fun _ => ?_)
      refine lv_aload_n X.1.1 X.1.2.1 dX2_readsAreAhead_44 rfl (lv_at hl 2 rfl) ?_
      refine lv_iload_n X.1.1 X.1.2.1 dX2_readsAreAhead_45 rfl (lv_at hl 3 rfl) ?_
      refine lv_iload_n X.1.1 X.1.2.1 dX2_readsAreAhead_46 rfl (lv_at hl 0 rfl) ?_
      refine sx_cvI (As := [.int (nI (t)), .int (nI 1)]) (rest := []) X (mX1_number l (ci := ci) (cj := cj) (L := 16) (row := t) (t := 1) (by omega) (by omega) (by decide) (by omega) (by omega) hci hcj) gX2_readsAreAhead_X1_number rfl yv_X1_number ⟨Nat.le_of_ble_eq_true rfl, Nat.le_of_ble_eq_true rfl⟩ hci (by omega) rfl rfl hl.1 rfl (Nat.le_of_ble_eq_true rfl) dX2_readsAreAhead_47 ⟨Nat.le_of_ble_eq_true rfl, Nat.le_of_ble_eq_true rfl⟩ hs rfl hP (fun r3 F3 H3 l3 hp hP => ?_)
      obtain ⟨rfl, rfl⟩ := hp
      rw [show g (4 * t + 1) = w (5 + 4 * t) from (hg _ (by omega)).trans (congrArg w (by omega))]
      refine lv_aload_n X.1.1 X.1.2.1 dX2_readsAreAhead_50 rfl (lv_at hl 1 rfl) ?_
      refine sx_get X hP in_X2_readsAreAhead_X2 hki (by omega) rfl 5 (by decide) lk_X2_readsAreAhead_fieldLink_RX2_9_RaceWatch_Kept_readNumbers_I rfl dX2_readsAreAhead_51 ?_
      refine lv_iload_n X.1.1 X.1.2.1 dX2_readsAreAhead_54 rfl (lv_at hl 0 rfl) ?_
      refine sx_ald X hP hkj (by omega) (1) (by decide) (by decide) dX2_readsAreAhead_55 ?_
      rw [hnr1]
      refine lv_icmp_ge X.1.1 X.1.2.1 (tgt := 61) dX2_readsAreAhead_56 (by decide) (fun c56_4 => ?_) (fun c56_4 => ?_)
      · refine lv_iinc (v := (nI (2))) (lv' := [(3, .int (nI 2)), (0, rf G (ki)), (1, rf G (ci)), (2, .int (nI (t)))]) X.1.1 X.1.2.1 dX2_readsAreAhead_61 hl (k := 0) rfl (by decide) (by decide) rfl (fun ls hl => ?_)
        refine lv_goto (tgt := 39) X.1.1 X.1.2.1 dX2_readsAreAhead_64 (by decide) ?_
        refine lv_iload_n X.1.1 X.1.2.1 dX2_readsAreAhead_39 rfl (lv_at hl 0 rfl) ?_
        refine lv_iconst (v := nI 4) X.1.1 X.1.2.1 dX2_readsAreAhead_40 (by decide) ?_
        refine sx_icmp_ge X (by decide) (by decide) (tgt := 67) dX2_readsAreAhead_41 (by decide) (fun h => absurd h (by decide)) (fun _ => ?_)
        refine lv_aload_n X.1.1 X.1.2.1 dX2_readsAreAhead_44 rfl (lv_at hl 2 rfl) ?_
        refine lv_iload_n X.1.1 X.1.2.1 dX2_readsAreAhead_45 rfl (lv_at hl 3 rfl) ?_
        refine lv_iload_n X.1.1 X.1.2.1 dX2_readsAreAhead_46 rfl (lv_at hl 0 rfl) ?_
        refine sx_cvI (As := [.int (nI (t)), .int (nI 2)]) (rest := []) X (mX1_number l (ci := ci) (cj := cj) (L := 16) (row := t) (t := 2) (by omega) (by omega) (by decide) (by omega) (by omega) hci hcj) gX2_readsAreAhead_X1_number rfl yv_X1_number ⟨Nat.le_of_ble_eq_true rfl, Nat.le_of_ble_eq_true rfl⟩ hci (by omega) rfl rfl hl.1 rfl (Nat.le_of_ble_eq_true rfl) dX2_readsAreAhead_47 ⟨Nat.le_of_ble_eq_true rfl, Nat.le_of_ble_eq_true rfl⟩ hs rfl hP (fun r5 F5 H5 l5 hp hP => ?_)
        obtain ⟨rfl, rfl⟩ := hp
        rw [show g (4 * t + 2) = w (6 + 4 * t) from (hg _ (by omega)).trans (congrArg w (by omega))]
        refine lv_aload_n X.1.1 X.1.2.1 dX2_readsAreAhead_50 rfl (lv_at hl 1 rfl) ?_
        refine sx_get X hP in_X2_readsAreAhead_X2 hki (by omega) rfl 5 (by decide) lk_X2_readsAreAhead_fieldLink_RX2_9_RaceWatch_Kept_readNumbers_I rfl dX2_readsAreAhead_51 ?_
        refine lv_iload_n X.1.1 X.1.2.1 dX2_readsAreAhead_54 rfl (lv_at hl 0 rfl) ?_
        refine sx_ald X hP hkj (by omega) (2) (by decide) (by decide) dX2_readsAreAhead_55 ?_
        rw [hnr2]
        refine lv_icmp_ge X.1.1 X.1.2.1 (tgt := 61) dX2_readsAreAhead_56 (by decide) (fun c56_6 => ?_) (fun c56_6 => ?_)
        · refine lv_iinc (v := (nI (3))) (lv' := [(3, .int (nI 3)), (0, rf G (ki)), (1, rf G (ci)), (2, .int (nI (t)))]) X.1.1 X.1.2.1 dX2_readsAreAhead_61 hl (k := 0) rfl (by decide) (by decide) rfl (fun ls hl => ?_)
          refine lv_goto (tgt := 39) X.1.1 X.1.2.1 dX2_readsAreAhead_64 (by decide) ?_
          refine lv_iload_n X.1.1 X.1.2.1 dX2_readsAreAhead_39 rfl (lv_at hl 0 rfl) ?_
          refine lv_iconst (v := nI 4) X.1.1 X.1.2.1 dX2_readsAreAhead_40 (by decide) ?_
          refine sx_icmp_ge X (by decide) (by decide) (tgt := 67) dX2_readsAreAhead_41 (by decide) (fun h => absurd h (by decide)) (fun _ => ?_)
          refine lv_aload_n X.1.1 X.1.2.1 dX2_readsAreAhead_44 rfl (lv_at hl 2 rfl) ?_
          refine lv_iload_n X.1.1 X.1.2.1 dX2_readsAreAhead_45 rfl (lv_at hl 3 rfl) ?_
          refine lv_iload_n X.1.1 X.1.2.1 dX2_readsAreAhead_46 rfl (lv_at hl 0 rfl) ?_
          refine sx_cvI (As := [.int (nI (t)), .int (nI 3)]) (rest := []) X (mX1_number l (ci := ci) (cj := cj) (L := 16) (row := t) (t := 3) (by omega) (by omega) (by decide) (by omega) (by omega) hci hcj) gX2_readsAreAhead_X1_number rfl yv_X1_number ⟨Nat.le_of_ble_eq_true rfl, Nat.le_of_ble_eq_true rfl⟩ hci (by omega) rfl rfl hl.1 rfl (Nat.le_of_ble_eq_true rfl) dX2_readsAreAhead_47 ⟨Nat.le_of_ble_eq_true rfl, Nat.le_of_ble_eq_true rfl⟩ hs rfl hP (fun r7 F7 H7 l7 hp hP => ?_)
          obtain ⟨rfl, rfl⟩ := hp
          rw [show g (4 * t + 3) = w (7 + 4 * t) from (hg _ (by omega)).trans (congrArg w (by omega))]
          refine lv_aload_n X.1.1 X.1.2.1 dX2_readsAreAhead_50 rfl (lv_at hl 1 rfl) ?_
          refine sx_get X hP in_X2_readsAreAhead_X2 hki (by omega) rfl 5 (by decide) lk_X2_readsAreAhead_fieldLink_RX2_9_RaceWatch_Kept_readNumbers_I rfl dX2_readsAreAhead_51 ?_
          refine lv_iload_n X.1.1 X.1.2.1 dX2_readsAreAhead_54 rfl (lv_at hl 0 rfl) ?_
          refine sx_ald X hP hkj (by omega) (3) (by decide) (by decide) dX2_readsAreAhead_55 ?_
          rw [hnr3]
          refine lv_icmp_ge X.1.1 X.1.2.1 (tgt := 61) dX2_readsAreAhead_56 (by decide) (fun c56_8 => ?_) (fun c56_8 => ?_)
          · refine lv_iinc (v := (nI (4))) (lv' := [(3, .int (nI 4)), (0, rf G (ki)), (1, rf G (ci)), (2, .int (nI (t)))]) X.1.1 X.1.2.1 dX2_readsAreAhead_61 hl (k := 0) rfl (by decide) (by decide) rfl (fun ls hl => ?_)
            refine lv_goto (tgt := 39) X.1.1 X.1.2.1 dX2_readsAreAhead_64 (by decide) ?_
            refine lv_iload_n X.1.1 X.1.2.1 dX2_readsAreAhead_39 rfl (lv_at hl 0 rfl) ?_
            refine lv_iconst (v := nI 4) X.1.1 X.1.2.1 dX2_readsAreAhead_40 (by decide) ?_
            refine sx_icmp_ge X (by decide) (by decide) (tgt := 67) dX2_readsAreAhead_41 (by decide) (fun _ => ?_) (fun h => absurd h (by decide))
            refine lv_iconst (v := nI 1) X.1.1 X.1.2.1 dX2_readsAreAhead_67 (by decide) ?_
            rw [hQ]
            exact sx_zret X rfl (by decide) hs rfl hP dX2_readsAreAhead_68 (⟨rfl, Or.inl ⟨fun q => by rcases q with q | ⟨_, q⟩; (rw [hDd] at q; exact notA_no q); rcases q with q | q | q | q; exact Int32.not_lt.mpr c56 q; exact Int32.not_lt.mpr c56_4 q; exact Int32.not_lt.mpr c56_6 q; exact Int32.not_lt.mpr c56_8 q, rfl⟩⟩)
          · refine lv_iconst (v := nI 0) X.1.1 X.1.2.1 dX2_readsAreAhead_59 (by decide) ?_
            rw [hQ]
            exact sx_zret X rfl (by decide) hs rfl hP dX2_readsAreAhead_60 (⟨rfl, Or.inr ⟨fun q => q (Or.inr ⟨hSh, by unfold anyN; exact Or.inr (Or.inr (Or.inr (Int32.not_le.mp c56_8)))⟩), rfl⟩⟩)
        · refine lv_iconst (v := nI 0) X.1.1 X.1.2.1 dX2_readsAreAhead_59 (by decide) ?_
          rw [hQ]
          exact sx_zret X rfl (by decide) hs rfl hP dX2_readsAreAhead_60 (⟨rfl, Or.inr ⟨fun q => q (Or.inr ⟨hSh, by unfold anyN; exact Or.inr (Or.inr (Or.inl (Int32.not_le.mp c56_6)))⟩), rfl⟩⟩)
      · refine lv_iconst (v := nI 0) X.1.1 X.1.2.1 dX2_readsAreAhead_59 (by decide) ?_
        rw [hQ]
        exact sx_zret X rfl (by decide) hs rfl hP dX2_readsAreAhead_60 (⟨rfl, Or.inr ⟨fun q => q (Or.inr ⟨hSh, by unfold anyN; exact Or.inr (Or.inl (Int32.not_le.mp c56_4))⟩), rfl⟩⟩)
    · refine lv_iconst (v := nI 0) X.1.1 X.1.2.1 dX2_readsAreAhead_59 (by decide) ?_
      rw [hQ]
      exact sx_zret X rfl (by decide) hs rfl hP dX2_readsAreAhead_60 (⟨rfl, Or.inr ⟨fun q => q (Or.inr ⟨hSh, by unfold anyN; exact Or.inl (Int32.not_le.mp c56)⟩), rfl⟩⟩)
theorem ys_X2_kindOf : yX2_kindOf.cls ≠ "java/lang/invoke/MethodHandle" ∧ yX2_kindOf.cls ≠ "java/lang/invoke/VarHandle" ∧ (parseMethodDescriptor yX2_kindOf.desc).map (fun d => d.parameters.length) = some 3 := by decide +kernel
theorem yv_X2_kindOf : yX2_kindOf.cls = RX2 ∧ yX2_kindOf.cls ≠ "java/lang/invoke/MethodHandle" ∧ yX2_kindOf.cls ≠ "java/lang/invoke/VarHandle" ∧ (parseMethodDescriptor yX2_kindOf.desc).map (fun d => d.parameters.length) = some 3 := ⟨rfl, ys_X2_kindOf⟩
theorem in_X2_kindOf_X2 : ∀ w ∈ wsX20, w ∈ wsX2_kindOf := fun _ h => List.mem_cons_of_mem _ (List.mem_append_left _ (List.mem_append_right _ (h)))
theorem lk_X2_kindOf_fieldLink_RX2_15_RaceWatch_Kept_writer_I : (.fieldLink RX2 15 "RaceWatch$Kept" "writer" "I" : Cond) ∈ wsX2_kindOf := List.mem_cons_of_mem _ (List.mem_append_left _ (List.mem_append_left _ (List.mem_of_getElem? (i := 0) rfl)))
theorem lk_X2_kindOf_fieldLink_RX2_19_RaceWatch_Kept_writeNumber_I : (.fieldLink RX2 19 "RaceWatch$Kept" "writeNumber" "I" : Cond) ∈ wsX2_kindOf := List.mem_cons_of_mem _ (List.mem_append_left _ (List.mem_append_left _ (List.mem_of_getElem? (i := 1) rfl)))
abbrev rmX2_kindOf : Room := { frames := 2, cells := 0, slots := 0, locals := 45 }
set_option maxHeartbeats 800000 in
set_option maxRecDepth 100000 in
theorem mX2_kindOf {G : sx_G} (l : Launch) {F : Nat → va_E} {n ki kj ci cj t c : Nat} {rr : Value} {w nr g : Nat → Int32} {gd : Int32} {wr : Nat}  (lki : ki < n) (lkj : kj < n) (lci : ci < n) (lcj : cj < n) (m1 : ki ≠ kj) (m2 : ci ≠ ki) (m3 : ci ≠ kj) (m4 : cj ≠ ki) (m5 : cj ≠ kj) (m6 : ci ≠ cj) (ht : t < 4) (hc : c < 4) (hok : okC w c) (hnr : ∀ k, k < 4 → nr k = w (48 + 12 * c + k)) (hg : ∀ k, k < 16 → g k = w (4 + k)) (hwr : wr < 2) (hki : F (ki) = ob 2 ([.int (w (43 + 12 * c)), .int (w (44 + 12 * c)), .int (w (45 + 12 * c)), .int (w (46 + 12 * c)), .int (w (47 + 12 * c)), rf G (kj), .int (w (52 + 12 * c)), .int (w (53 + 12 * c)), .int (w (54 + 12 * c)), .int (gd)])) (hkj : F (kj) = rI G (4) (nr)) (hci : F (ci) = ob 1 ([rr, rf G (cj)])) (hcj : F (cj) = rI G (16) (g)) : sx_I G l yX2_kindOf wsX2_kindOf rmX2_kindOf [rf G (ki), .int (nI (wr)), rf G (ci), .int (nI (t))] (n) F (n) (fun r F1 => F = F1 ∧ kindF w t c wr = r) := by
  refine sx_enter (cc := cX2_kindOf) (maxL := 5) (ret := some .int) (own := RX2) (nm := "kindOf") (by decide) rfl rfl rfl (Nat.le_of_ble_eq_true rfl) ?_
  intro pp ee ss mm args below meth kc ls Q hQ X hs hP hl
  have hl : lv_has ls 5 [(0, rf G (ki)), (1, .int (nI (wr))), (2, rf G (ci)), (3, .int (nI (t)))] := hl
  rcases (show wr = 0 ∨ wr = 1 by omega) with rfl | rfl
  · rcases hok.1 with hW | ⟨u, hu, hW⟩
    · refine lv_aload_n X.1.1 X.1.2.1 dX2_kindOf_0 rfl (lv_at hl 0 rfl) ?_
      refine sx_get X hP in_X2_kindOf_X2 hki (by omega) rfl 0 (by decide) lk_X2_kindOf_fieldLink_RX2_15_RaceWatch_Kept_writer_I rfl dX2_kindOf_1 ?_
      rw [hW]
      refine lv_iconst (v := (-1)) X.1.1 X.1.2.1 dX2_kindOf_4 (by decide) ?_
      refine lv_icmp_eq X.1.1 X.1.2.1 (tgt := 24) dX2_kindOf_5 (by decide) (fun _ => ?_) (fun h => absurd rfl h)
      refine lv_iconst (v := nI 1) X.1.1 X.1.2.1 dX2_kindOf_24 (by decide) ?_
      refine lv_goto (tgt := 29) X.1.1 X.1.2.1 dX2_kindOf_25 (by decide) ?_
      refine lv_istore (lv' := [(4, .int (nI 1)), (0, rf G (ki)), (1, .int (nI 0)), (2, rf G (ci)), (3, .int (nI (t)))]) X.1.1 X.1.2.1 dX2_kindOf_29 hl (by decide) rfl (fun ls hl => ?_)
      refine lv_iload_n X.1.1 X.1.2.1 dX2_kindOf_31 rfl (lv_at hl 2 rfl) ?_
      refine sx_if_ne X (by decide) (tgt := 46) dX2_kindOf_32 (by decide) (fun h => absurd h (by decide)) (fun _ => ?_)
      refine lv_iload X.1.1 X.1.2.1 dX2_kindOf_35 (lv_at hl 0 rfl) ?_
      refine sx_if_eq X (by decide) (tgt := 44) dX2_kindOf_37 (by decide) (fun h => absurd h (by decide)) (fun _ => ?_)
      refine lv_iconst (v := (-1)) X.1.1 X.1.2.1 dX2_kindOf_40 (by decide) ?_
      refine lv_goto (tgt := 45) X.1.1 X.1.2.1 dX2_kindOf_41 (by decide) ?_
      rw [hQ]
      exact sx_iret X rfl hs rfl hP dX2_kindOf_45 (⟨rfl, by unfold kindF; rw [hW, cif_f notA_no]; rw [cif_t (show (0 : Nat) = 0 from rfl)]⟩)
    · refine lv_aload_n X.1.1 X.1.2.1 dX2_kindOf_0 rfl (lv_at hl 0 rfl) ?_
      refine sx_get X hP in_X2_kindOf_X2 hki (by omega) rfl 0 (by decide) lk_X2_kindOf_fieldLink_RX2_15_RaceWatch_Kept_writer_I rfl dX2_kindOf_1 ?_
      rw [hW]
      refine lv_iconst (v := (-1)) X.1.1 X.1.2.1 dX2_kindOf_4 (by decide) ?_
      refine lv_icmp_eq X.1.1 X.1.2.1 (tgt := 24) dX2_kindOf_5 (by decide) (fun h => absurd h (sx_m1 (by omega))) (fun _ => ?_)
      refine lv_aload_n X.1.1 X.1.2.1 dX2_kindOf_8 rfl (lv_at hl 2 rfl) ?_
      refine lv_iload_n X.1.1 X.1.2.1 dX2_kindOf_9 rfl (lv_at hl 3 rfl) ?_
      refine lv_aload_n X.1.1 X.1.2.1 dX2_kindOf_10 rfl (lv_at hl 0 rfl) ?_
      refine sx_get X hP in_X2_kindOf_X2 hki (by omega) rfl 0 (by decide) lk_X2_kindOf_fieldLink_RX2_15_RaceWatch_Kept_writer_I rfl dX2_kindOf_11 ?_
      rw [hW]
      refine sx_cvI (As := [.int (nI (t)), .int (nI (u))]) (rest := []) X (mX1_number l (ci := ci) (cj := cj) (L := 16) (row := t) (t := u) (by omega) (by omega) (by decide) (by omega) (by omega) hci hcj) gX2_kindOf_X1_number rfl yv_X1_number ⟨Nat.le_of_ble_eq_true rfl, Nat.le_of_ble_eq_true rfl⟩ hci (by omega) rfl rfl hl.1 rfl (Nat.le_of_ble_eq_true rfl) dX2_kindOf_14 ⟨Nat.le_of_ble_eq_true rfl, Nat.le_of_ble_eq_true rfl⟩ hs rfl hP (fun r1 F1 H1 l1 hp hP => ?_)
      obtain ⟨rfl, rfl⟩ := hp
      rw [show g (4 * t + u) = w (4 + 4 * t + u) from (hg _ (by omega)).trans (congrArg w (by omega))]
      refine lv_aload_n X.1.1 X.1.2.1 dX2_kindOf_17 rfl (lv_at hl 0 rfl) ?_
      refine sx_get X hP in_X2_kindOf_X2 hki (by omega) rfl 1 (by decide) lk_X2_kindOf_fieldLink_RX2_19_RaceWatch_Kept_writeNumber_I rfl dX2_kindOf_18 ?_
      refine lv_icmp_lt X.1.1 X.1.2.1 (tgt := 28) dX2_kindOf_21 (by decide) (fun c21 => ?_) (fun c21 => ?_)
      · refine lv_iconst (v := nI 0) X.1.1 X.1.2.1 dX2_kindOf_28 (by decide) ?_
        refine lv_istore (lv' := [(4, .int (nI 0)), (0, rf G (ki)), (1, .int (nI 0)), (2, rf G (ci)), (3, .int (nI (t)))]) X.1.1 X.1.2.1 dX2_kindOf_29 hl (by decide) rfl (fun ls hl => ?_)
        refine lv_iload_n X.1.1 X.1.2.1 dX2_kindOf_31 rfl (lv_at hl 2 rfl) ?_
        refine sx_if_ne X (by decide) (tgt := 46) dX2_kindOf_32 (by decide) (fun h => absurd h (by decide)) (fun _ => ?_)
        refine lv_iload X.1.1 X.1.2.1 dX2_kindOf_35 (lv_at hl 0 rfl) ?_
        refine sx_if_eq X (by decide) (tgt := 44) dX2_kindOf_37 (by decide) (fun _ => ?_) (fun h => absurd h (by decide))
        refine lv_iconst (v := nI 1) X.1.1 X.1.2.1 dX2_kindOf_44 (by decide) ?_
        rw [hQ]
        exact sx_iret X rfl hs rfl hP dX2_kindOf_45 (⟨rfl, by unfold kindF; rw [hW, cif_t ((notA_nI hu).mpr c21)]; rw [cif_t (show (0 : Nat) = 0 from rfl)]⟩)
      · refine lv_iconst (v := nI 1) X.1.1 X.1.2.1 dX2_kindOf_24 (by decide) ?_
        refine lv_goto (tgt := 29) X.1.1 X.1.2.1 dX2_kindOf_25 (by decide) ?_
        refine lv_istore (lv' := [(4, .int (nI 1)), (0, rf G (ki)), (1, .int (nI 0)), (2, rf G (ci)), (3, .int (nI (t)))]) X.1.1 X.1.2.1 dX2_kindOf_29 hl (by decide) rfl (fun ls hl => ?_)
        refine lv_iload_n X.1.1 X.1.2.1 dX2_kindOf_31 rfl (lv_at hl 2 rfl) ?_
        refine sx_if_ne X (by decide) (tgt := 46) dX2_kindOf_32 (by decide) (fun h => absurd h (by decide)) (fun _ => ?_)
        refine lv_iload X.1.1 X.1.2.1 dX2_kindOf_35 (lv_at hl 0 rfl) ?_
        refine sx_if_eq X (by decide) (tgt := 44) dX2_kindOf_37 (by decide) (fun h => absurd h (by decide)) (fun _ => ?_)
        refine lv_iconst (v := (-1)) X.1.1 X.1.2.1 dX2_kindOf_40 (by decide) ?_
        refine lv_goto (tgt := 45) X.1.1 X.1.2.1 dX2_kindOf_41 (by decide) ?_
        rw [hQ]
        exact sx_iret X rfl hs rfl hP dX2_kindOf_45 (⟨rfl, by unfold kindF; rw [hW, cif_f (fun q => c21 ((notA_nI hu).mp q))]; rw [cif_t (show (0 : Nat) = 0 from rfl)]⟩)
  · rcases hok.1 with hW | ⟨u, hu, hW⟩
    · refine lv_aload_n X.1.1 X.1.2.1 dX2_kindOf_0 rfl (lv_at hl 0 rfl) ?_
      refine sx_get X hP in_X2_kindOf_X2 hki (by omega) rfl 0 (by decide) lk_X2_kindOf_fieldLink_RX2_15_RaceWatch_Kept_writer_I rfl dX2_kindOf_1 ?_
      rw [hW]
      refine lv_iconst (v := (-1)) X.1.1 X.1.2.1 dX2_kindOf_4 (by decide) ?_
      refine lv_icmp_eq X.1.1 X.1.2.1 (tgt := 24) dX2_kindOf_5 (by decide) (fun _ => ?_) (fun h => absurd rfl h)
      refine lv_iconst (v := nI 1) X.1.1 X.1.2.1 dX2_kindOf_24 (by decide) ?_
      refine lv_goto (tgt := 29) X.1.1 X.1.2.1 dX2_kindOf_25 (by decide) ?_
      refine lv_istore (lv' := [(4, .int (nI 1)), (0, rf G (ki)), (1, .int (nI 1)), (2, rf G (ci)), (3, .int (nI (t)))]) X.1.1 X.1.2.1 dX2_kindOf_29 hl (by decide) rfl (fun ls hl => ?_)
      refine lv_iload_n X.1.1 X.1.2.1 dX2_kindOf_31 rfl (lv_at hl 2 rfl) ?_
      refine sx_if_ne X (by decide) (tgt := 46) dX2_kindOf_32 (by decide) (fun _ => ?_) (fun h => absurd h (by decide))
      refine lv_iload X.1.1 X.1.2.1 dX2_kindOf_46 (lv_at hl 0 rfl) ?_
      refine sx_if_ne X (by decide) (tgt := 53) dX2_kindOf_48 (by decide) (fun _ => ?_) (fun h => absurd h (by decide))
      refine lv_aload_n X.1.1 X.1.2.1 dX2_kindOf_53 rfl (lv_at hl 1 rfl) ?_
      refine lv_aload_n X.1.1 X.1.2.1 dX2_kindOf_54 rfl (lv_at hl 3 rfl) ?_
      refine lv_iload_n X.1.1 X.1.2.1 dX2_kindOf_55 rfl (lv_at hl 4 rfl) ?_
      refine sx_cvI (As := [rf G (ci), .int (nI (t))]) (rest := []) X (mX2_readsAreAhead l (ki := ki) (kj := kj) (ci := ci) (cj := cj) (t := t) (c := c) lki lkj lci lcj m1 m2 m3 m4 m5 m6 ht hc hok hnr hg hki hkj hci hcj) gX2_kindOf_X2_readsAreAhead rfl yv_X2_readsAreAhead ⟨Nat.le_of_ble_eq_true rfl, Nat.le_of_ble_eq_true rfl⟩ hki (by omega) rfl rfl hl.1 rfl (Nat.le_of_ble_eq_true rfl) dX2_kindOf_56 ⟨Nat.le_of_ble_eq_true rfl, Nat.le_of_ble_eq_true rfl⟩ hs rfl hP (fun r2 F2 H2 l2 hp hP => ?_)
      obtain ⟨rfl, ⟨b3, rfl⟩ | ⟨b3, rfl⟩⟩ := hp
      · refine sx_if_eq X (by decide) (tgt := 66) dX2_kindOf_59 (by decide) (fun h => absurd h (by decide)) (fun _ => ?_)
        refine lv_iconst (v := (-1)) X.1.1 X.1.2.1 dX2_kindOf_62 (by decide) ?_
        refine lv_goto (tgt := 67) X.1.1 X.1.2.1 dX2_kindOf_63 (by decide) ?_
        rw [hQ]
        exact sx_iret X rfl hs rfl hP dX2_kindOf_67 (⟨rfl, by unfold kindF; rw [hW, cif_f notA_no]; rw [cif_f (show ¬ (1 : Nat) = 0 by decide)]; rw [cif_f b3]⟩)
      · refine sx_if_eq X (by decide) (tgt := 66) dX2_kindOf_59 (by decide) (fun _ => ?_) (fun h => absurd h (by decide))
        refine lv_iconst (v := nI 2) X.1.1 X.1.2.1 dX2_kindOf_66 (by decide) ?_
        rw [hQ]
        exact sx_iret X rfl hs rfl hP dX2_kindOf_67 (⟨rfl, by unfold kindF; rw [hW, cif_f notA_no]; rw [cif_f (show ¬ (1 : Nat) = 0 by decide)]; rw [cif_t (Classical.not_not.mp b3)]⟩)
    · refine lv_aload_n X.1.1 X.1.2.1 dX2_kindOf_0 rfl (lv_at hl 0 rfl) ?_
      refine sx_get X hP in_X2_kindOf_X2 hki (by omega) rfl 0 (by decide) lk_X2_kindOf_fieldLink_RX2_15_RaceWatch_Kept_writer_I rfl dX2_kindOf_1 ?_
      rw [hW]
      refine lv_iconst (v := (-1)) X.1.1 X.1.2.1 dX2_kindOf_4 (by decide) ?_
      refine lv_icmp_eq X.1.1 X.1.2.1 (tgt := 24) dX2_kindOf_5 (by decide) (fun h => absurd h (sx_m1 (by omega))) (fun _ => ?_)
      refine lv_aload_n X.1.1 X.1.2.1 dX2_kindOf_8 rfl (lv_at hl 2 rfl) ?_
      refine lv_iload_n X.1.1 X.1.2.1 dX2_kindOf_9 rfl (lv_at hl 3 rfl) ?_
      refine lv_aload_n X.1.1 X.1.2.1 dX2_kindOf_10 rfl (lv_at hl 0 rfl) ?_
      refine sx_get X hP in_X2_kindOf_X2 hki (by omega) rfl 0 (by decide) lk_X2_kindOf_fieldLink_RX2_15_RaceWatch_Kept_writer_I rfl dX2_kindOf_11 ?_
      rw [hW]
      refine sx_cvI (As := [.int (nI (t)), .int (nI (u))]) (rest := []) X (mX1_number l (ci := ci) (cj := cj) (L := 16) (row := t) (t := u) (by omega) (by omega) (by decide) (by omega) (by omega) hci hcj) gX2_kindOf_X1_number rfl yv_X1_number ⟨Nat.le_of_ble_eq_true rfl, Nat.le_of_ble_eq_true rfl⟩ hci (by omega) rfl rfl hl.1 rfl (Nat.le_of_ble_eq_true rfl) dX2_kindOf_14 ⟨Nat.le_of_ble_eq_true rfl, Nat.le_of_ble_eq_true rfl⟩ hs rfl hP (fun r4 F4 H4 l4 hp hP => ?_)
      obtain ⟨rfl, rfl⟩ := hp
      rw [show g (4 * t + u) = w (4 + 4 * t + u) from (hg _ (by omega)).trans (congrArg w (by omega))]
      refine lv_aload_n X.1.1 X.1.2.1 dX2_kindOf_17 rfl (lv_at hl 0 rfl) ?_
      refine sx_get X hP in_X2_kindOf_X2 hki (by omega) rfl 1 (by decide) lk_X2_kindOf_fieldLink_RX2_19_RaceWatch_Kept_writeNumber_I rfl dX2_kindOf_18 ?_
      refine lv_icmp_lt X.1.1 X.1.2.1 (tgt := 28) dX2_kindOf_21 (by decide) (fun c21 => ?_) (fun c21 => ?_)
      · refine lv_iconst (v := nI 0) X.1.1 X.1.2.1 dX2_kindOf_28 (by decide) ?_
        refine lv_istore (lv' := [(4, .int (nI 0)), (0, rf G (ki)), (1, .int (nI 1)), (2, rf G (ci)), (3, .int (nI (t)))]) X.1.1 X.1.2.1 dX2_kindOf_29 hl (by decide) rfl (fun ls hl => ?_)
        refine lv_iload_n X.1.1 X.1.2.1 dX2_kindOf_31 rfl (lv_at hl 2 rfl) ?_
        refine sx_if_ne X (by decide) (tgt := 46) dX2_kindOf_32 (by decide) (fun _ => ?_) (fun h => absurd h (by decide))
        refine lv_iload X.1.1 X.1.2.1 dX2_kindOf_46 (lv_at hl 0 rfl) ?_
        refine sx_if_ne X (by decide) (tgt := 53) dX2_kindOf_48 (by decide) (fun h => absurd h (by decide)) (fun _ => ?_)
        refine lv_iconst (v := nI 0) X.1.1 X.1.2.1 dX2_kindOf_51 (by decide) ?_
        rw [hQ]
        exact sx_iret X rfl hs rfl hP dX2_kindOf_52 (⟨rfl, by unfold kindF; rw [hW, cif_t ((notA_nI hu).mpr c21)]; rw [cif_f (show ¬ (1 : Nat) = 0 by decide)]⟩)
      · refine lv_iconst (v := nI 1) X.1.1 X.1.2.1 dX2_kindOf_24 (by decide) ?_
        refine lv_goto (tgt := 29) X.1.1 X.1.2.1 dX2_kindOf_25 (by decide) ?_
        refine lv_istore (lv' := [(4, .int (nI 1)), (0, rf G (ki)), (1, .int (nI 1)), (2, rf G (ci)), (3, .int (nI (t)))]) X.1.1 X.1.2.1 dX2_kindOf_29 hl (by decide) rfl (fun ls hl => ?_)
        refine lv_iload_n X.1.1 X.1.2.1 dX2_kindOf_31 rfl (lv_at hl 2 rfl) ?_
        refine sx_if_ne X (by decide) (tgt := 46) dX2_kindOf_32 (by decide) (fun _ => ?_) (fun h => absurd h (by decide))
        refine lv_iload X.1.1 X.1.2.1 dX2_kindOf_46 (lv_at hl 0 rfl) ?_
        refine sx_if_ne X (by decide) (tgt := 53) dX2_kindOf_48 (by decide) (fun _ => ?_) (fun h => absurd h (by decide))
        refine lv_aload_n X.1.1 X.1.2.1 dX2_kindOf_53 rfl (lv_at hl 1 rfl) ?_
        refine lv_aload_n X.1.1 X.1.2.1 dX2_kindOf_54 rfl (lv_at hl 3 rfl) ?_
        refine lv_iload_n X.1.1 X.1.2.1 dX2_kindOf_55 rfl (lv_at hl 4 rfl) ?_
        refine sx_cvI (As := [rf G (ci), .int (nI (t))]) (rest := []) X (mX2_readsAreAhead l (ki := ki) (kj := kj) (ci := ci) (cj := cj) (t := t) (c := c) lki lkj lci lcj m1 m2 m3 m4 m5 m6 ht hc hok hnr hg hki hkj hci hcj) gX2_kindOf_X2_readsAreAhead rfl yv_X2_readsAreAhead ⟨Nat.le_of_ble_eq_true rfl, Nat.le_of_ble_eq_true rfl⟩ hki (by omega) rfl rfl hl.1 rfl (Nat.le_of_ble_eq_true rfl) dX2_kindOf_56 ⟨Nat.le_of_ble_eq_true rfl, Nat.le_of_ble_eq_true rfl⟩ hs rfl hP (fun r5 F5 H5 l5 hp hP => ?_)
        obtain ⟨rfl, ⟨b6, rfl⟩ | ⟨b6, rfl⟩⟩ := hp
        · refine sx_if_eq X (by decide) (tgt := 66) dX2_kindOf_59 (by decide) (fun h => absurd h (by decide)) (fun _ => ?_)
          refine lv_iconst (v := (-1)) X.1.1 X.1.2.1 dX2_kindOf_62 (by decide) ?_
          refine lv_goto (tgt := 67) X.1.1 X.1.2.1 dX2_kindOf_63 (by decide) ?_
          rw [hQ]
          exact sx_iret X rfl hs rfl hP dX2_kindOf_67 (⟨rfl, by unfold kindF; rw [hW, cif_f (fun q => c21 ((notA_nI hu).mp q))]; rw [cif_f (show ¬ (1 : Nat) = 0 by decide)]; rw [cif_f b6]⟩)
        · refine sx_if_eq X (by decide) (tgt := 66) dX2_kindOf_59 (by decide) (fun _ => ?_) (fun h => absurd h (by decide))
          refine lv_iconst (v := nI 2) X.1.1 X.1.2.1 dX2_kindOf_66 (by decide) ?_
          rw [hQ]
          exact sx_iret X rfl hs rfl hP dX2_kindOf_67 (⟨rfl, by unfold kindF; rw [hW, cif_f (fun q => c21 ((notA_nI hu).mp q))]; rw [cif_f (show ¬ (1 : Nat) = 0 by decide)]; rw [cif_t (Classical.not_not.mp b6)]⟩)
theorem ys_X2_forgetReads : yX2_forgetReads.cls ≠ "java/lang/invoke/MethodHandle" ∧ yX2_forgetReads.cls ≠ "java/lang/invoke/VarHandle" ∧ (parseMethodDescriptor yX2_forgetReads.desc).map (fun d => d.parameters.length) = some 0 := by decide +kernel
theorem yv_X2_forgetReads : yX2_forgetReads.cls = RX2 ∧ yX2_forgetReads.cls ≠ "java/lang/invoke/MethodHandle" ∧ yX2_forgetReads.cls ≠ "java/lang/invoke/VarHandle" ∧ (parseMethodDescriptor yX2_forgetReads.desc).map (fun d => d.parameters.length) = some 0 := ⟨rfl, ys_X2_forgetReads⟩
theorem in_X2_forgetReads_X2 : ∀ w ∈ wsX20, w ∈ wsX2_forgetReads := fun _ h => List.mem_cons_of_mem _ (List.mem_append_right _ (h))
theorem lk_X2_forgetReads_fieldLink_RX2_37_RaceWatch_Kept_reader_I : (.fieldLink RX2 37 "RaceWatch$Kept" "reader" "I" : Cond) ∈ wsX2_forgetReads := List.mem_cons_of_mem _ (List.mem_append_left _ (List.mem_of_getElem? (i := 0) rfl))
theorem lk_X2_forgetReads_fieldLink_RX2_40_RaceWatch_Kept_readNumber_I : (.fieldLink RX2 40 "RaceWatch$Kept" "readNumber" "I" : Cond) ∈ wsX2_forgetReads := List.mem_cons_of_mem _ (List.mem_append_left _ (List.mem_of_getElem? (i := 1) rfl))
theorem lk_X2_forgetReads_fieldLink_RX2_43_RaceWatch_Kept_isShared_Z : (.fieldLink RX2 43 "RaceWatch$Kept" "isShared" "Z" : Cond) ∈ wsX2_forgetReads := List.mem_cons_of_mem _ (List.mem_append_left _ (List.mem_of_getElem? (i := 2) rfl))
theorem lk_X2_forgetReads_fieldLink_RX2_9_RaceWatch_Kept_readNumbers_I : (.fieldLink RX2 9 "RaceWatch$Kept" "readNumbers" "[I" : Cond) ∈ wsX2_forgetReads := List.mem_cons_of_mem _ (List.mem_append_left _ (List.mem_of_getElem? (i := 3) rfl))
abbrev rmX2_forgetReads : Room := { frames := 1, cells := 0, slots := 0, locals := 23 }
set_option maxHeartbeats 800000 in
set_option maxRecDepth 100000 in
theorem mX2_forgetReads {G : sx_G} (l : Launch) {F : Nat → va_E} {n ki kj : Nat} {f0 f1 f2 f3 f4 f6 f7 f8 f9 : Value} {nr : Nat → Int32}  (lki : ki < n) (lkj : kj < n) (m1 : ki ≠ kj) (hki : F (ki) = ob 2 ([f0, f1, f2, f3, f4, rf G (kj), f6, f7, f8, f9])) (hkj : F (kj) = rI G (4) (nr)) : sx_V G l yX2_forgetReads wsX2_forgetReads rmX2_forgetReads [rf G (ki)] (n) F (n) (fun F1 => F1 ki = ob 2 ([f0, f1, .int (-1), .int (nI 0), .int (nI 0), rf G (kj), f6, f7, f8, f9]) ∧ (∃ g1, F1 kj = rI G 4 g1 ∧ ∀ k, k < 4 → g1 k = nI 0) ∧ ∀ j, j ≠ ki ∧ j ≠ kj → F1 j = F j) := by
  refine sx_enter (cc := cX2_forgetReads) (maxL := 1) (ret := none) (own := RX2) (nm := "forgetReads") (by decide) rfl rfl rfl (Nat.le_of_ble_eq_true rfl) ?_
  intro pp ee ss mm args below meth kc ls Q hQ X hs hP hl
  have hl : lv_has ls 1 [(0, rf G (ki))] := hl
  have hO : ∀ j, j ≠ ki ∧ j ≠ kj → F j = F j := fun _ _ => rfl
  refine lv_aload_n X.1.1 X.1.2.1 dX2_forgetReads_0 rfl (lv_at hl 0 rfl) ?_
  refine lv_iconst (v := (-1)) X.1.1 X.1.2.1 dX2_forgetReads_1 (by decide) ?_
  refine sx_put X hP in_X2_forgetReads_X2 tyX2 tyX2_ok nmX2 hki (by omega) rfl 2 (by decide) lk_X2_forgetReads_fieldLink_RX2_37_RaceWatch_Kept_reader_I rfl rfl rfl (Nat.le_of_ble_eq_true rfl) dX2_forgetReads_2 (fun F1 H1 l1 e1 o1 hP => ?_)
  have hki : F1 (ki) = ob 2 ([f0, f1, .int (-1), f3, f4, rf G (kj), f6, f7, f8, f9]) := e1
  have hkj := (o1 (kj) (by omega)).trans hkj
  have hO : ∀ j, j ≠ ki ∧ j ≠ kj → F1 j = F j := fun j hj => (o1 j (by omega)).trans (hO j hj)
  refine lv_aload_n X.1.1 X.1.2.1 dX2_forgetReads_5 rfl (lv_at hl 0 rfl) ?_
  refine lv_iconst (v := nI 0) X.1.1 X.1.2.1 dX2_forgetReads_6 (by decide) ?_
  refine sx_put X hP in_X2_forgetReads_X2 tyX2 tyX2_ok nmX2 hki (by omega) rfl 3 (by decide) lk_X2_forgetReads_fieldLink_RX2_40_RaceWatch_Kept_readNumber_I rfl rfl rfl (Nat.le_of_ble_eq_true rfl) dX2_forgetReads_7 (fun F2 H2 l2 e2 o2 hP => ?_)
  have hki : F2 (ki) = ob 2 ([f0, f1, .int (-1), .int (nI 0), f4, rf G (kj), f6, f7, f8, f9]) := e2
  have hkj := (o2 (kj) (by omega)).trans hkj
  have hO : ∀ j, j ≠ ki ∧ j ≠ kj → F2 j = F j := fun j hj => (o2 j (by omega)).trans (hO j hj)
  refine lv_aload_n X.1.1 X.1.2.1 dX2_forgetReads_10 rfl (lv_at hl 0 rfl) ?_
  refine lv_iconst (v := nI 0) X.1.1 X.1.2.1 dX2_forgetReads_11 (by decide) ?_
  refine sx_put X hP in_X2_forgetReads_X2 tyX2 tyX2_ok nmX2 hki (by omega) rfl 4 (by decide) lk_X2_forgetReads_fieldLink_RX2_43_RaceWatch_Kept_isShared_Z rfl (by decide) rfl (Nat.le_of_ble_eq_true rfl) dX2_forgetReads_12 (fun F3 H3 l3 e3 o3 hP => ?_)
  have hki : F3 (ki) = ob 2 ([f0, f1, .int (-1), .int (nI 0), .int (nI 0), rf G (kj), f6, f7, f8, f9]) := e3
  have hkj := (o3 (kj) (by omega)).trans hkj
  have hO : ∀ j, j ≠ ki ∧ j ≠ kj → F3 j = F j := fun j hj => (o3 j (by omega)).trans (hO j hj)
  refine lv_aload_n X.1.1 X.1.2.1 dX2_forgetReads_15 rfl (lv_at hl 0 rfl) ?_
  refine sx_get X hP in_X2_forgetReads_X2 hki (by omega) rfl 5 (by decide) lk_X2_forgetReads_fieldLink_RX2_9_RaceWatch_Kept_readNumbers_I rfl dX2_forgetReads_16 ?_
  refine lv_iconst (v := nI 0) X.1.1 X.1.2.1 dX2_forgetReads_19 (by decide) ?_
  refine sx_csV (As := [rf G (kj), .int (nI 0)]) (rest := []) X (mJ7_fill_53178 l (cj := kj) (L := 4) (v := (nI (0))) (by omega) (by decide) hkj) gX2_forgetReads_J7_fill_53178 rfl ys_J7_fill_53178 ⟨Nat.le_of_ble_eq_true rfl, Nat.le_of_ble_eq_true rfl⟩ hl.1 rfl (Nat.le_of_ble_eq_true rfl) dX2_forgetReads_20 ⟨Nat.le_of_ble_eq_true rfl, Nat.le_of_ble_eq_true rfl⟩ hs rfl hP (fun F4 H4 l4 hp hP => ?_)
  obtain ⟨w4, e4, hz4, o4⟩ := hp
  have hkj : F4 (kj) = rI G (4) (w4) := e4
  have hki := (o4 (ki) (by omega)).trans hki
  have hO : ∀ j, j ≠ ki ∧ j ≠ kj → F4 j = F j := fun j hj => (o4 j (by omega)).trans (hO j hj)
  rw [hQ]
  exact sx_vret X rfl hs rfl hP dX2_forgetReads_23 (⟨hki, ⟨_, hkj, hz4⟩, hO⟩)
theorem ys_X2_begin : yX2_begin.cls ≠ "java/lang/invoke/MethodHandle" ∧ yX2_begin.cls ≠ "java/lang/invoke/VarHandle" ∧ (parseMethodDescriptor yX2_begin.desc).map (fun d => d.parameters.length) = some 0 := by decide +kernel
theorem yv_X2_begin : yX2_begin.cls = RX2 ∧ yX2_begin.cls ≠ "java/lang/invoke/MethodHandle" ∧ yX2_begin.cls ≠ "java/lang/invoke/VarHandle" ∧ (parseMethodDescriptor yX2_begin.desc).map (fun d => d.parameters.length) = some 0 := ⟨rfl, ys_X2_begin⟩
theorem in_X2_begin_X2 : ∀ w ∈ wsX20, w ∈ wsX2_begin := fun _ h => List.mem_cons_of_mem _ (List.mem_append_right _ (h))
theorem lk_X2_begin_fieldLink_RX2_15_RaceWatch_Kept_writer_I : (.fieldLink RX2 15 "RaceWatch$Kept" "writer" "I" : Cond) ∈ wsX2_begin := List.mem_cons_of_mem _ (List.mem_append_left _ (List.mem_of_getElem? (i := 0) rfl))
theorem lk_X2_begin_fieldLink_RX2_19_RaceWatch_Kept_writeNumber_I : (.fieldLink RX2 19 "RaceWatch$Kept" "writeNumber" "I" : Cond) ∈ wsX2_begin := List.mem_cons_of_mem _ (List.mem_append_left _ (List.mem_of_getElem? (i := 1) rfl))
theorem lk_X2_begin_fieldLink_RX2_25_RaceWatch_Kept_promotions_I : (.fieldLink RX2 25 "RaceWatch$Kept" "promotions" "I" : Cond) ∈ wsX2_begin := List.mem_cons_of_mem _ (List.mem_append_left _ (List.mem_of_getElem? (i := 2) rfl))
theorem lk_X2_begin_fieldLink_RX2_28_RaceWatch_Kept_firstEvent_I : (.fieldLink RX2 28 "RaceWatch$Kept" "firstEvent" "I" : Cond) ∈ wsX2_begin := List.mem_cons_of_mem _ (List.mem_append_left _ (List.mem_of_getElem? (i := 3) rfl))
theorem lk_X2_begin_fieldLink_RX2_31_RaceWatch_Kept_firstKind_I : (.fieldLink RX2 31 "RaceWatch$Kept" "firstKind" "I" : Cond) ∈ wsX2_begin := List.mem_cons_of_mem _ (List.mem_append_left _ (List.mem_of_getElem? (i := 4) rfl))
theorem lk_X2_begin_fieldLink_RX2_34_RaceWatch_Kept_guards_I : (.fieldLink RX2 34 "RaceWatch$Kept" "guards" "I" : Cond) ∈ wsX2_begin := List.mem_cons_of_mem _ (List.mem_append_left _ (List.mem_of_getElem? (i := 5) rfl))
abbrev rmX2_begin : Room := { frames := 2, cells := 0, slots := 0, locals := 43 }
set_option maxHeartbeats 800000 in
set_option maxRecDepth 100000 in
theorem mX2_begin {G : sx_G} (l : Launch) {F : Nat → va_E} {n ki kj : Nat} {f0 f1 f2 f3 f4 f6 f7 f8 f9 : Value} {nr : Nat → Int32}  (lki : ki < n) (lkj : kj < n) (m1 : ki ≠ kj) (hki : F (ki) = ob 2 ([f0, f1, f2, f3, f4, rf G (kj), f6, f7, f8, f9])) (hkj : F (kj) = rI G (4) (nr)) : sx_V G l yX2_begin wsX2_begin rmX2_begin [rf G (ki)] (n) F (n) (fun F1 => F1 ki = ob 2 ([.int (-1), .int (nI 0), .int (-1), .int (nI 0), .int (nI 0), rf G (kj), .int (nI 0), .int (-1), .int (-1), .int (nI 7)]) ∧ (∃ g1, F1 kj = rI G 4 g1 ∧ ∀ k, k < 4 → g1 k = nI 0) ∧ ∀ j, j ≠ ki ∧ j ≠ kj → F1 j = F j) := by
  refine sx_enter (cc := cX2_begin) (maxL := 1) (ret := none) (own := RX2) (nm := "begin") (by decide) rfl rfl rfl (Nat.le_of_ble_eq_true rfl) ?_
  intro pp ee ss mm args below meth kc ls Q hQ X hs hP hl
  have hl : lv_has ls 1 [(0, rf G (ki))] := hl
  have hO : ∀ j, j ≠ ki ∧ j ≠ kj → F j = F j := fun _ _ => rfl
  refine lv_aload_n X.1.1 X.1.2.1 dX2_begin_0 rfl (lv_at hl 0 rfl) ?_
  refine lv_iconst (v := (-1)) X.1.1 X.1.2.1 dX2_begin_1 (by decide) ?_
  refine sx_put X hP in_X2_begin_X2 tyX2 tyX2_ok nmX2 hki (by omega) rfl 0 (by decide) lk_X2_begin_fieldLink_RX2_15_RaceWatch_Kept_writer_I rfl rfl rfl (Nat.le_of_ble_eq_true rfl) dX2_begin_2 (fun F1 H1 l1 e1 o1 hP => ?_)
  have hki : F1 (ki) = ob 2 ([.int (-1), f1, f2, f3, f4, rf G (kj), f6, f7, f8, f9]) := e1
  have hkj := (o1 (kj) (by omega)).trans hkj
  have hO : ∀ j, j ≠ ki ∧ j ≠ kj → F1 j = F j := fun j hj => (o1 j (by omega)).trans (hO j hj)
  refine lv_aload_n X.1.1 X.1.2.1 dX2_begin_5 rfl (lv_at hl 0 rfl) ?_
  refine lv_iconst (v := nI 0) X.1.1 X.1.2.1 dX2_begin_6 (by decide) ?_
  refine sx_put X hP in_X2_begin_X2 tyX2 tyX2_ok nmX2 hki (by omega) rfl 1 (by decide) lk_X2_begin_fieldLink_RX2_19_RaceWatch_Kept_writeNumber_I rfl rfl rfl (Nat.le_of_ble_eq_true rfl) dX2_begin_7 (fun F2 H2 l2 e2 o2 hP => ?_)
  have hki : F2 (ki) = ob 2 ([.int (-1), .int (nI 0), f2, f3, f4, rf G (kj), f6, f7, f8, f9]) := e2
  have hkj := (o2 (kj) (by omega)).trans hkj
  have hO : ∀ j, j ≠ ki ∧ j ≠ kj → F2 j = F j := fun j hj => (o2 j (by omega)).trans (hO j hj)
  refine lv_aload_n X.1.1 X.1.2.1 dX2_begin_10 rfl (lv_at hl 0 rfl) ?_
  refine sx_cvV (As := []) (rest := []) X (mX2_forgetReads l (ki := ki) (kj := kj) (by omega) (by omega) (by omega) hki hkj) gX2_begin_X2_forgetReads rfl yv_X2_forgetReads ⟨Nat.le_of_ble_eq_true rfl, Nat.le_of_ble_eq_true rfl⟩ hki (by omega) rfl rfl hl.1 rfl (Nat.le_of_ble_eq_true rfl) dX2_begin_11 ⟨Nat.le_of_ble_eq_true rfl, Nat.le_of_ble_eq_true rfl⟩ hs rfl hP (fun F3 H3 l3 hp hP => ?_)
  obtain ⟨e3, ⟨w3, f3, hz3⟩, o3⟩ := hp
  have hki : F3 (ki) = ob 2 ([.int (-1), .int (nI 0), .int (-1), .int (nI 0), .int (nI 0), rf G (kj), f6, f7, f8, f9]) := e3
  have hkj : F3 (kj) = rI G (4) (w3) := f3
  have hO : ∀ j, j ≠ ki ∧ j ≠ kj → F3 j = F j := fun j hj => (o3 j (by omega)).trans (hO j hj)
  refine lv_aload_n X.1.1 X.1.2.1 dX2_begin_14 rfl (lv_at hl 0 rfl) ?_
  refine lv_iconst (v := nI 0) X.1.1 X.1.2.1 dX2_begin_15 (by decide) ?_
  refine sx_put X hP in_X2_begin_X2 tyX2 tyX2_ok nmX2 hki (by omega) rfl 6 (by decide) lk_X2_begin_fieldLink_RX2_25_RaceWatch_Kept_promotions_I rfl rfl rfl (Nat.le_of_ble_eq_true rfl) dX2_begin_16 (fun F4 H4 l4 e4 o4 hP => ?_)
  have hki : F4 (ki) = ob 2 ([.int (-1), .int (nI 0), .int (-1), .int (nI 0), .int (nI 0), rf G (kj), .int (nI 0), f7, f8, f9]) := e4
  have hkj := (o4 (kj) (by omega)).trans hkj
  have hO : ∀ j, j ≠ ki ∧ j ≠ kj → F4 j = F j := fun j hj => (o4 j (by omega)).trans (hO j hj)
  refine lv_aload_n X.1.1 X.1.2.1 dX2_begin_19 rfl (lv_at hl 0 rfl) ?_
  refine lv_iconst (v := (-1)) X.1.1 X.1.2.1 dX2_begin_20 (by decide) ?_
  refine sx_put X hP in_X2_begin_X2 tyX2 tyX2_ok nmX2 hki (by omega) rfl 7 (by decide) lk_X2_begin_fieldLink_RX2_28_RaceWatch_Kept_firstEvent_I rfl rfl rfl (Nat.le_of_ble_eq_true rfl) dX2_begin_21 (fun F5 H5 l5 e5 o5 hP => ?_)
  have hki : F5 (ki) = ob 2 ([.int (-1), .int (nI 0), .int (-1), .int (nI 0), .int (nI 0), rf G (kj), .int (nI 0), .int (-1), f8, f9]) := e5
  have hkj := (o5 (kj) (by omega)).trans hkj
  have hO : ∀ j, j ≠ ki ∧ j ≠ kj → F5 j = F j := fun j hj => (o5 j (by omega)).trans (hO j hj)
  refine lv_aload_n X.1.1 X.1.2.1 dX2_begin_24 rfl (lv_at hl 0 rfl) ?_
  refine lv_iconst (v := (-1)) X.1.1 X.1.2.1 dX2_begin_25 (by decide) ?_
  refine sx_put X hP in_X2_begin_X2 tyX2 tyX2_ok nmX2 hki (by omega) rfl 8 (by decide) lk_X2_begin_fieldLink_RX2_31_RaceWatch_Kept_firstKind_I rfl rfl rfl (Nat.le_of_ble_eq_true rfl) dX2_begin_26 (fun F6 H6 l6 e6 o6 hP => ?_)
  have hki : F6 (ki) = ob 2 ([.int (-1), .int (nI 0), .int (-1), .int (nI 0), .int (nI 0), rf G (kj), .int (nI 0), .int (-1), .int (-1), f9]) := e6
  have hkj := (o6 (kj) (by omega)).trans hkj
  have hO : ∀ j, j ≠ ki ∧ j ≠ kj → F6 j = F j := fun j hj => (o6 j (by omega)).trans (hO j hj)
  refine lv_aload_n X.1.1 X.1.2.1 dX2_begin_29 rfl (lv_at hl 0 rfl) ?_
  refine lv_bipush (v := nI 7) X.1.1 X.1.2.1 dX2_begin_30 (by decide) ?_
  refine sx_put X hP in_X2_begin_X2 tyX2 tyX2_ok nmX2 hki (by omega) rfl 9 (by decide) lk_X2_begin_fieldLink_RX2_34_RaceWatch_Kept_guards_I rfl rfl rfl (Nat.le_of_ble_eq_true rfl) dX2_begin_32 (fun F7 H7 l7 e7 o7 hP => ?_)
  have hki : F7 (ki) = ob 2 ([.int (-1), .int (nI 0), .int (-1), .int (nI 0), .int (nI 0), rf G (kj), .int (nI 0), .int (-1), .int (-1), .int (nI 7)]) := e7
  have hkj := (o7 (kj) (by omega)).trans hkj
  have hO : ∀ j, j ≠ ki ∧ j ≠ kj → F7 j = F j := fun j hj => (o7 j (by omega)).trans (hO j hj)
  rw [hQ]
  exact sx_vret X rfl hs rfl hP dX2_begin_35 (⟨hki, ⟨_, hkj, hz3⟩, hO⟩)
theorem ys_X2_share : yX2_share.cls ≠ "java/lang/invoke/MethodHandle" ∧ yX2_share.cls ≠ "java/lang/invoke/VarHandle" ∧ (parseMethodDescriptor yX2_share.desc).map (fun d => d.parameters.length) = some 2 := by decide +kernel
theorem yv_X2_share : yX2_share.cls = RX2 ∧ yX2_share.cls ≠ "java/lang/invoke/MethodHandle" ∧ yX2_share.cls ≠ "java/lang/invoke/VarHandle" ∧ (parseMethodDescriptor yX2_share.desc).map (fun d => d.parameters.length) = some 2 := ⟨rfl, ys_X2_share⟩
theorem in_X2_share_X2 : ∀ w ∈ wsX20, w ∈ wsX2_share := fun _ h => List.mem_cons_of_mem _ (List.mem_append_right _ (h))
theorem lk_X2_share_fieldLink_RX2_9_RaceWatch_Kept_readNumbers_I : (.fieldLink RX2 9 "RaceWatch$Kept" "readNumbers" "[I" : Cond) ∈ wsX2_share := List.mem_cons_of_mem _ (List.mem_append_left _ (List.mem_of_getElem? (i := 0) rfl))
theorem lk_X2_share_fieldLink_RX2_37_RaceWatch_Kept_reader_I : (.fieldLink RX2 37 "RaceWatch$Kept" "reader" "I" : Cond) ∈ wsX2_share := List.mem_cons_of_mem _ (List.mem_append_left _ (List.mem_of_getElem? (i := 1) rfl))
theorem lk_X2_share_fieldLink_RX2_40_RaceWatch_Kept_readNumber_I : (.fieldLink RX2 40 "RaceWatch$Kept" "readNumber" "I" : Cond) ∈ wsX2_share := List.mem_cons_of_mem _ (List.mem_append_left _ (List.mem_of_getElem? (i := 2) rfl))
theorem lk_X2_share_fieldLink_RX2_43_RaceWatch_Kept_isShared_Z : (.fieldLink RX2 43 "RaceWatch$Kept" "isShared" "Z" : Cond) ∈ wsX2_share := List.mem_cons_of_mem _ (List.mem_append_left _ (List.mem_of_getElem? (i := 3) rfl))
theorem lk_X2_share_fieldLink_RX2_25_RaceWatch_Kept_promotions_I : (.fieldLink RX2 25 "RaceWatch$Kept" "promotions" "I" : Cond) ∈ wsX2_share := List.mem_cons_of_mem _ (List.mem_append_left _ (List.mem_of_getElem? (i := 4) rfl))
abbrev rmX2_share : Room := { frames := 0, cells := 0, slots := 0, locals := 0 }
set_option maxHeartbeats 800000 in
set_option maxRecDepth 100000 in
theorem mX2_share {G : sx_G} (l : Launch) {F : Nat → va_E} {n ki kj u t : Nat} {f0 f1 f4 f7 f8 f9 : Value} {rn pr own : Int32} {nr : Nat → Int32}  (lki : ki < n) (lkj : kj < n) (m1 : ki ≠ kj) (hu : u < 4) (ht : t < 4) (hki : F (ki) = ob 2 ([f0, f1, .int (nI (u)), .int (rn), f4, rf G (kj), .int (pr), f7, f8, f9])) (hkj : F (kj) = rI G (4) (nr)) : sx_V G l yX2_share wsX2_share rmX2_share [rf G (ki), .int (nI (t)), .int (own)] (n) F (n) (fun F1 => F1 ki = ob 2 ([f0, f1, .int (-1), .int (nI 0), .int (nI 1), rf G (kj), .int (pr + nI 1), f7, f8, f9]) ∧ F1 kj = rI G 4 (upd (upd nr u rn) t own) ∧ ∀ j, j ≠ ki ∧ j ≠ kj → F1 j = F j) := by
  refine sx_enter (cc := cX2_share) (maxL := 3) (ret := none) (own := RX2) (nm := "share") (by decide) rfl rfl rfl (Nat.le_of_ble_eq_true rfl) ?_
  intro pp ee ss mm args below meth kc ls Q hQ X hs hP hl
  have hl : lv_has ls 3 [(0, rf G (ki)), (1, .int (nI (t))), (2, .int (own))] := hl
  have hO : ∀ j, j ≠ ki ∧ j ≠ kj → F j = F j := fun _ _ => rfl
  refine lv_aload_n X.1.1 X.1.2.1 dX2_share_0 rfl (lv_at hl 0 rfl) ?_
  refine sx_get X hP in_X2_share_X2 hki (by omega) rfl 5 (by decide) lk_X2_share_fieldLink_RX2_9_RaceWatch_Kept_readNumbers_I rfl dX2_share_1 ?_
  refine lv_aload_n X.1.1 X.1.2.1 dX2_share_4 rfl (lv_at hl 0 rfl) ?_
  refine sx_get X hP in_X2_share_X2 hki (by omega) rfl 2 (by decide) lk_X2_share_fieldLink_RX2_37_RaceWatch_Kept_reader_I rfl dX2_share_5 ?_
  refine lv_aload_n X.1.1 X.1.2.1 dX2_share_8 rfl (lv_at hl 0 rfl) ?_
  refine sx_get X hP in_X2_share_X2 hki (by omega) rfl 3 (by decide) lk_X2_share_fieldLink_RX2_40_RaceWatch_Kept_readNumber_I rfl dX2_share_9 ?_
  refine sx_ast X hP hkj (by omega) (u) (by omega) (by decide) dX2_share_12 (fun F1 H1 l1 e1 o1 hP => ?_)
  obtain ⟨w1, hw1⟩ : ∃ z, z = upd nr (u) (rn) := ⟨_, rfl⟩
  rw [← hw1] at e1
  have hkj : F1 (kj) = rI G (4) (w1) := e1
  have hki := (o1 (ki) (by omega)).trans hki
  have hO : ∀ j, j ≠ ki ∧ j ≠ kj → F1 j = F j := fun j hj => (o1 j (by omega)).trans (hO j hj)
  refine lv_aload_n X.1.1 X.1.2.1 dX2_share_13 rfl (lv_at hl 0 rfl) ?_
  refine sx_get X hP in_X2_share_X2 hki (by omega) rfl 5 (by decide) lk_X2_share_fieldLink_RX2_9_RaceWatch_Kept_readNumbers_I rfl dX2_share_14 ?_
  refine lv_iload_n X.1.1 X.1.2.1 dX2_share_17 rfl (lv_at hl 1 rfl) ?_
  refine lv_iload_n X.1.1 X.1.2.1 dX2_share_18 rfl (lv_at hl 2 rfl) ?_
  refine sx_ast X hP hkj (by omega) (t) (by omega) (by decide) dX2_share_19 (fun F2 H2 l2 e2 o2 hP => ?_)
  obtain ⟨w2, hw2⟩ : ∃ z, z = upd w1 (t) (own) := ⟨_, rfl⟩
  rw [← hw2] at e2
  have hkj : F2 (kj) = rI G (4) (w2) := e2
  have hki := (o2 (ki) (by omega)).trans hki
  have hO : ∀ j, j ≠ ki ∧ j ≠ kj → F2 j = F j := fun j hj => (o2 j (by omega)).trans (hO j hj)
  refine lv_aload_n X.1.1 X.1.2.1 dX2_share_20 rfl (lv_at hl 0 rfl) ?_
  refine lv_iconst (v := (-1)) X.1.1 X.1.2.1 dX2_share_21 (by decide) ?_
  refine sx_put X hP in_X2_share_X2 tyX2 tyX2_ok nmX2 hki (by omega) rfl 2 (by decide) lk_X2_share_fieldLink_RX2_37_RaceWatch_Kept_reader_I rfl rfl rfl (Nat.le_of_ble_eq_true rfl) dX2_share_22 (fun F3 H3 l3 e3 o3 hP => ?_)
  have hki : F3 (ki) = ob 2 ([f0, f1, .int (-1), .int (rn), f4, rf G (kj), .int (pr), f7, f8, f9]) := e3
  have hkj := (o3 (kj) (by omega)).trans hkj
  have hO : ∀ j, j ≠ ki ∧ j ≠ kj → F3 j = F j := fun j hj => (o3 j (by omega)).trans (hO j hj)
  refine lv_aload_n X.1.1 X.1.2.1 dX2_share_25 rfl (lv_at hl 0 rfl) ?_
  refine lv_iconst (v := nI 0) X.1.1 X.1.2.1 dX2_share_26 (by decide) ?_
  refine sx_put X hP in_X2_share_X2 tyX2 tyX2_ok nmX2 hki (by omega) rfl 3 (by decide) lk_X2_share_fieldLink_RX2_40_RaceWatch_Kept_readNumber_I rfl rfl rfl (Nat.le_of_ble_eq_true rfl) dX2_share_27 (fun F4 H4 l4 e4 o4 hP => ?_)
  have hki : F4 (ki) = ob 2 ([f0, f1, .int (-1), .int (nI 0), f4, rf G (kj), .int (pr), f7, f8, f9]) := e4
  have hkj := (o4 (kj) (by omega)).trans hkj
  have hO : ∀ j, j ≠ ki ∧ j ≠ kj → F4 j = F j := fun j hj => (o4 j (by omega)).trans (hO j hj)
  refine lv_aload_n X.1.1 X.1.2.1 dX2_share_30 rfl (lv_at hl 0 rfl) ?_
  refine lv_iconst (v := nI 1) X.1.1 X.1.2.1 dX2_share_31 (by decide) ?_
  refine sx_put X hP in_X2_share_X2 tyX2 tyX2_ok nmX2 hki (by omega) rfl 4 (by decide) lk_X2_share_fieldLink_RX2_43_RaceWatch_Kept_isShared_Z rfl (by decide) rfl (Nat.le_of_ble_eq_true rfl) dX2_share_32 (fun F5 H5 l5 e5 o5 hP => ?_)
  have hki : F5 (ki) = ob 2 ([f0, f1, .int (-1), .int (nI 0), .int (nI 1), rf G (kj), .int (pr), f7, f8, f9]) := e5
  have hkj := (o5 (kj) (by omega)).trans hkj
  have hO : ∀ j, j ≠ ki ∧ j ≠ kj → F5 j = F j := fun j hj => (o5 j (by omega)).trans (hO j hj)
  refine lv_aload_n X.1.1 X.1.2.1 dX2_share_35 rfl (lv_at hl 0 rfl) ?_
  refine lv_dup X.1.1 X.1.2.1 dX2_share_36 rfl ?_
  refine sx_get X hP in_X2_share_X2 hki (by omega) rfl 6 (by decide) lk_X2_share_fieldLink_RX2_25_RaceWatch_Kept_promotions_I rfl dX2_share_37 ?_
  refine lv_iconst (v := nI 1) X.1.1 X.1.2.1 dX2_share_40 (by decide) ?_
  refine lv_iadd X.1.1 X.1.2.1 dX2_share_41 ?_
  refine sx_put X hP in_X2_share_X2 tyX2 tyX2_ok nmX2 hki (by omega) rfl 6 (by decide) lk_X2_share_fieldLink_RX2_25_RaceWatch_Kept_promotions_I rfl rfl rfl (Nat.le_of_ble_eq_true rfl) dX2_share_42 (fun F6 H6 l6 e6 o6 hP => ?_)
  have hki : F6 (ki) = ob 2 ([f0, f1, .int (-1), .int (nI 0), .int (nI 1), rf G (kj), .int ((pr) + (nI (1))), f7, f8, f9]) := e6
  have hkj := (o6 (kj) (by omega)).trans hkj
  have hO : ∀ j, j ≠ ki ∧ j ≠ kj → F6 j = F j := fun j hj => (o6 j (by omega)).trans (hO j hj)
  rw [hQ]
  exact sx_vret X rfl hs rfl hP dX2_share_45 (⟨hki, hkj.trans (by rw [hw2, hw1]), hO⟩)
theorem ys_X2_keepRead : yX2_keepRead.cls ≠ "java/lang/invoke/MethodHandle" ∧ yX2_keepRead.cls ≠ "java/lang/invoke/VarHandle" ∧ (parseMethodDescriptor yX2_keepRead.desc).map (fun d => d.parameters.length) = some 2 := by decide +kernel
theorem yv_X2_keepRead : yX2_keepRead.cls = RX2 ∧ yX2_keepRead.cls ≠ "java/lang/invoke/MethodHandle" ∧ yX2_keepRead.cls ≠ "java/lang/invoke/VarHandle" ∧ (parseMethodDescriptor yX2_keepRead.desc).map (fun d => d.parameters.length) = some 2 := ⟨rfl, ys_X2_keepRead⟩
theorem in_X2_keepRead_X2 : ∀ w ∈ wsX20, w ∈ wsX2_keepRead := fun _ h => List.mem_cons_of_mem _ (List.mem_append_left _ (List.mem_append_right _ (h)))
theorem lk_X2_keepRead_fieldLink_RX2_43_RaceWatch_Kept_isShared_Z : (.fieldLink RX2 43 "RaceWatch$Kept" "isShared" "Z" : Cond) ∈ wsX2_keepRead := List.mem_cons_of_mem _ (List.mem_append_left _ (List.mem_append_left _ (List.mem_of_getElem? (i := 0) rfl)))
theorem lk_X2_keepRead_fieldLink_RX2_37_RaceWatch_Kept_reader_I : (.fieldLink RX2 37 "RaceWatch$Kept" "reader" "I" : Cond) ∈ wsX2_keepRead := List.mem_cons_of_mem _ (List.mem_append_left _ (List.mem_append_left _ (List.mem_of_getElem? (i := 2) rfl)))
theorem lk_X2_keepRead_fieldLink_RX2_40_RaceWatch_Kept_readNumber_I : (.fieldLink RX2 40 "RaceWatch$Kept" "readNumber" "I" : Cond) ∈ wsX2_keepRead := List.mem_cons_of_mem _ (List.mem_append_left _ (List.mem_append_left _ (List.mem_of_getElem? (i := 3) rfl)))
theorem lk_X2_keepRead_fieldLink_RX2_9_RaceWatch_Kept_readNumbers_I : (.fieldLink RX2 9 "RaceWatch$Kept" "readNumbers" "[I" : Cond) ∈ wsX2_keepRead := List.mem_cons_of_mem _ (List.mem_append_left _ (List.mem_append_left _ (List.mem_of_getElem? (i := 1) rfl)))
abbrev rmX2_keepRead : Room := { frames := 2, cells := 0, slots := 0, locals := 45 }
set_option maxHeartbeats 800000 in
set_option maxRecDepth 100000 in
theorem mX2_keepRead {G : sx_G} (l : Launch) {F : Nat → va_E} {n ki kj ci cj t c : Nat} {rr : Value} {w nr g : Nat → Int32} {gd : Int32}  (lki : ki < n) (lkj : kj < n) (lci : ci < n) (lcj : cj < n) (m1 : ki ≠ kj) (m2 : ci ≠ ki) (m3 : ci ≠ kj) (m4 : cj ≠ ki) (m5 : cj ≠ kj) (m6 : ci ≠ cj) (ht : t < 4) (hc : c < 4) (hok : okC w c) (hnr : ∀ k, k < 4 → nr k = w (48 + 12 * c + k)) (hg : ∀ k, k < 16 → g k = w (4 + k)) (hki : F (ki) = ob 2 ([.int (w (43 + 12 * c)), .int (w (44 + 12 * c)), .int (w (45 + 12 * c)), .int (w (46 + 12 * c)), .int (w (47 + 12 * c)), rf G (kj), .int (w (52 + 12 * c)), .int (w (53 + 12 * c)), .int (w (54 + 12 * c)), .int (gd)])) (hkj : F (kj) = rI G (4) (nr)) (hci : F (ci) = ob 1 ([rr, rf G (cj)])) (hcj : F (cj) = rI G (16) (g)) : sx_V G l yX2_keepRead wsX2_keepRead rmX2_keepRead [rf G (ki), rf G (ci), .int (nI (t))] (n) F (n) (fun F1 => F1 ki = ob 2 ([.int (readF w t c (43 + 12 * c)), .int (readF w t c (44 + 12 * c)), .int (readF w t c (45 + 12 * c)), .int (readF w t c (46 + 12 * c)), .int (readF w t c (47 + 12 * c)), rf G (kj), .int (readF w t c (52 + 12 * c)), .int (readF w t c (53 + 12 * c)), .int (readF w t c (54 + 12 * c)), .int (gd)]) ∧ (∃ n1, F1 kj = rI G 4 n1 ∧ ∀ k, k < 4 → n1 k = readF w t c (48 + 12 * c + k)) ∧ ∀ j, j ≠ ki ∧ j ≠ kj → F1 j = F j) := by
  refine sx_enter (cc := cX2_keepRead) (maxL := 4) (ret := none) (own := RX2) (nm := "keepRead") (by decide) rfl rfl rfl (Nat.le_of_ble_eq_true rfl) ?_
  intro pp ee ss mm args below meth kc ls Q hQ X hs hP hl
  have hl : lv_has ls 4 [(0, rf G (ki)), (1, rf G (ci)), (2, .int (nI (t)))] := hl
  have hO : ∀ j, j ≠ ki ∧ j ≠ kj → F j = F j := fun _ _ => rfl
  rcases hok.2.2 with hSh | ⟨hSh, hDd⟩
  · rcases hok.2.1 with hDd | ⟨v, hv, hDd⟩
    · refine lv_aload_n X.1.1 X.1.2.1 dX2_keepRead_0 rfl (lv_at hl 1 rfl) ?_
      refine lv_iload_n X.1.1 X.1.2.1 dX2_keepRead_1 rfl (lv_at hl 2 rfl) ?_
      refine lv_iload_n X.1.1 X.1.2.1 dX2_keepRead_2 rfl (lv_at hl 2 rfl) ?_
      refine sx_cvI (As := [.int (nI (t)), .int (nI (t))]) (rest := []) X (mX1_number l (ci := ci) (cj := cj) (L := 16) (row := t) (t := t) (by omega) (by omega) (by decide) (by omega) (by omega) hci hcj) gX2_keepRead_X1_number rfl yv_X1_number ⟨Nat.le_of_ble_eq_true rfl, Nat.le_of_ble_eq_true rfl⟩ hci (by omega) rfl rfl hl.1 rfl (Nat.le_of_ble_eq_true rfl) dX2_keepRead_3 ⟨Nat.le_of_ble_eq_true rfl, Nat.le_of_ble_eq_true rfl⟩ hs rfl hP (fun r1 F1 H1 l1 hp hP => ?_)
      obtain ⟨rfl, rfl⟩ := hp
      rw [show g (4 * t + t) = w (4 + 5 * t) from (hg _ (by omega)).trans (congrArg w (by omega))]
      refine lv_istore_n (lv' := [(3, .int (w (4 + 5 * t))), (0, rf G (ki)), (1, rf G (ci)), (2, .int (nI (t)))]) X.1.1 X.1.2.1 dX2_keepRead_6 rfl hl (by decide) rfl (fun ls hl => ?_)
      refine lv_aload_n X.1.1 X.1.2.1 dX2_keepRead_7 rfl (lv_at hl 1 rfl) ?_
      refine sx_get X hP in_X2_keepRead_X2 hki (by omega) rfl 4 (by decide) lk_X2_keepRead_fieldLink_RX2_43_RaceWatch_Kept_isShared_Z rfl dX2_keepRead_8 ?_
      rw [hSh]
      refine sx_if_eq X (by decide) (tgt := 24) dX2_keepRead_11 (by decide) (fun _ => ?_) (fun h => absurd h (by decide))
      refine lv_aload_n X.1.1 X.1.2.1 dX2_keepRead_24 rfl (lv_at hl 1 rfl) ?_
      refine lv_aload_n X.1.1 X.1.2.1 dX2_keepRead_25 rfl (lv_at hl 2 rfl) ?_
      refine lv_iload_n X.1.1 X.1.2.1 dX2_keepRead_26 rfl (lv_at hl 3 rfl) ?_
      refine sx_cvI (As := [rf G (ci), .int (nI (t))]) (rest := []) X (mX2_readsAreAhead l (ki := ki) (kj := kj) (ci := ci) (cj := cj) (t := t) (c := c) lki lkj lci lcj m1 m2 m3 m4 m5 m6 ht hc hok hnr hg hki hkj hci hcj) gX2_keepRead_X2_readsAreAhead rfl yv_X2_readsAreAhead ⟨Nat.le_of_ble_eq_true rfl, Nat.le_of_ble_eq_true rfl⟩ hki (by omega) rfl rfl hl.1 rfl (Nat.le_of_ble_eq_true rfl) dX2_keepRead_27 ⟨Nat.le_of_ble_eq_true rfl, Nat.le_of_ble_eq_true rfl⟩ hs rfl hP (fun r2 F2 H2 l2 hp hP => ?_)
      obtain ⟨rfl, ⟨b3, rfl⟩ | ⟨b3, rfl⟩⟩ := hp
      · refine sx_if_eq X (by decide) (tgt := 46) dX2_keepRead_30 (by decide) (fun h => absurd h (by decide)) (fun _ => ?_)
        refine lv_aload_n X.1.1 X.1.2.1 dX2_keepRead_33 rfl (lv_at hl 1 rfl) ?_
        refine lv_iload_n X.1.1 X.1.2.1 dX2_keepRead_34 rfl (lv_at hl 3 rfl) ?_
        refine sx_put X hP in_X2_keepRead_X2 tyX2 tyX2_ok nmX2 hki (by omega) rfl 2 (by decide) lk_X2_keepRead_fieldLink_RX2_37_RaceWatch_Kept_reader_I rfl rfl rfl (Nat.le_of_ble_eq_true rfl) dX2_keepRead_35 (fun F4 H4 l4 e4 o4 hP => ?_)
        have hki : F4 (ki) = ob 2 ([.int (w (43 + 12 * c)), .int (w (44 + 12 * c)), .int (nI (t)), .int (w (46 + 12 * c)), .int (w (47 + 12 * c)), rf G (kj), .int (w (52 + 12 * c)), .int (w (53 + 12 * c)), .int (w (54 + 12 * c)), .int (gd)]) := e4
        have hkj := (o4 (kj) (by omega)).trans hkj
        have hci := (o4 (ci) (by omega)).trans hci
        have hcj := (o4 (cj) (by omega)).trans hcj
        have hO : ∀ j, j ≠ ki ∧ j ≠ kj → F4 j = F j := fun j hj => (o4 j (by omega)).trans (hO j hj)
        refine lv_aload_n X.1.1 X.1.2.1 dX2_keepRead_38 rfl (lv_at hl 1 rfl) ?_
        refine lv_iload_n X.1.1 X.1.2.1 dX2_keepRead_39 rfl (lv_at hl 0 rfl) ?_
        refine sx_put X hP in_X2_keepRead_X2 tyX2 tyX2_ok nmX2 hki (by omega) rfl 3 (by decide) lk_X2_keepRead_fieldLink_RX2_40_RaceWatch_Kept_readNumber_I rfl rfl rfl (Nat.le_of_ble_eq_true rfl) dX2_keepRead_40 (fun F5 H5 l5 e5 o5 hP => ?_)
        have hki : F5 (ki) = ob 2 ([.int (w (43 + 12 * c)), .int (w (44 + 12 * c)), .int (nI (t)), .int (w (4 + 5 * t)), .int (w (47 + 12 * c)), rf G (kj), .int (w (52 + 12 * c)), .int (w (53 + 12 * c)), .int (w (54 + 12 * c)), .int (gd)]) := e5
        have hkj := (o5 (kj) (by omega)).trans hkj
        have hci := (o5 (ci) (by omega)).trans hci
        have hcj := (o5 (cj) (by omega)).trans hcj
        have hO : ∀ j, j ≠ ki ∧ j ≠ kj → F5 j = F j := fun j hj => (o5 j (by omega)).trans (hO j hj)
        refine lv_goto (tgt := 52) X.1.1 X.1.2.1 dX2_keepRead_43 (by decide) ?_
        have hE : readF w t c = upd (upd w (45 + 12 * c) (nI t)) (46 + 12 * c) (upd w (45 + 12 * c) (nI t) (4 + 5 * t)) := by unfold readF; rw [cif_f (by rw [hSh]; decide), cif_t (fun q => b3 (Or.inl q))]
        rw [hQ]
        exact sx_vret X rfl hs rfl hP dX2_keepRead_52 (⟨hki.trans (by rw [hE, pk_un (j := 43 + 12 * c) (by omega), pk_un (j := 43 + 12 * c) (by omega), pk_un (j := 44 + 12 * c) (by omega), pk_un (j := 44 + 12 * c) (by omega), pk_un (j := 45 + 12 * c) (by omega), pk_us, pk_us, pk_un (j := 4 + 5 * t) (by omega), pk_un (j := 47 + 12 * c) (by omega), pk_un (j := 47 + 12 * c) (by omega), pk_un (j := 52 + 12 * c) (by omega), pk_un (j := 52 + 12 * c) (by omega), pk_un (j := 53 + 12 * c) (by omega), pk_un (j := 53 + 12 * c) (by omega), pk_un (j := 54 + 12 * c) (by omega), pk_un (j := 54 + 12 * c) (by omega)]), ⟨_, hkj, fun k hk => by rw [hE, pk_un (by omega), pk_un (by omega)]; exact hnr k hk⟩, hO⟩)
      · exact absurd (fun q => by rcases q with q | ⟨q, _⟩; (rw [hDd] at q; exact notA_no q); (rw [hSh] at q; exact absurd q (by decide))) b3
    · refine lv_aload_n X.1.1 X.1.2.1 dX2_keepRead_0 rfl (lv_at hl 1 rfl) ?_
      refine lv_iload_n X.1.1 X.1.2.1 dX2_keepRead_1 rfl (lv_at hl 2 rfl) ?_
      refine lv_iload_n X.1.1 X.1.2.1 dX2_keepRead_2 rfl (lv_at hl 2 rfl) ?_
      refine sx_cvI (As := [.int (nI (t)), .int (nI (t))]) (rest := []) X (mX1_number l (ci := ci) (cj := cj) (L := 16) (row := t) (t := t) (by omega) (by omega) (by decide) (by omega) (by omega) hci hcj) gX2_keepRead_X1_number rfl yv_X1_number ⟨Nat.le_of_ble_eq_true rfl, Nat.le_of_ble_eq_true rfl⟩ hci (by omega) rfl rfl hl.1 rfl (Nat.le_of_ble_eq_true rfl) dX2_keepRead_3 ⟨Nat.le_of_ble_eq_true rfl, Nat.le_of_ble_eq_true rfl⟩ hs rfl hP (fun r6 F6 H6 l6 hp hP => ?_)
      obtain ⟨rfl, rfl⟩ := hp
      rw [show g (4 * t + t) = w (4 + 5 * t) from (hg _ (by omega)).trans (congrArg w (by omega))]
      refine lv_istore_n (lv' := [(3, .int (w (4 + 5 * t))), (0, rf G (ki)), (1, rf G (ci)), (2, .int (nI (t)))]) X.1.1 X.1.2.1 dX2_keepRead_6 rfl hl (by decide) rfl (fun ls hl => ?_)
      refine lv_aload_n X.1.1 X.1.2.1 dX2_keepRead_7 rfl (lv_at hl 1 rfl) ?_
      refine sx_get X hP in_X2_keepRead_X2 hki (by omega) rfl 4 (by decide) lk_X2_keepRead_fieldLink_RX2_43_RaceWatch_Kept_isShared_Z rfl dX2_keepRead_8 ?_
      rw [hSh]
      refine sx_if_eq X (by decide) (tgt := 24) dX2_keepRead_11 (by decide) (fun _ => ?_) (fun h => absurd h (by decide))
      refine lv_aload_n X.1.1 X.1.2.1 dX2_keepRead_24 rfl (lv_at hl 1 rfl) ?_
      refine lv_aload_n X.1.1 X.1.2.1 dX2_keepRead_25 rfl (lv_at hl 2 rfl) ?_
      refine lv_iload_n X.1.1 X.1.2.1 dX2_keepRead_26 rfl (lv_at hl 3 rfl) ?_
      refine sx_cvI (As := [rf G (ci), .int (nI (t))]) (rest := []) X (mX2_readsAreAhead l (ki := ki) (kj := kj) (ci := ci) (cj := cj) (t := t) (c := c) lki lkj lci lcj m1 m2 m3 m4 m5 m6 ht hc hok hnr hg hki hkj hci hcj) gX2_keepRead_X2_readsAreAhead rfl yv_X2_readsAreAhead ⟨Nat.le_of_ble_eq_true rfl, Nat.le_of_ble_eq_true rfl⟩ hki (by omega) rfl rfl hl.1 rfl (Nat.le_of_ble_eq_true rfl) dX2_keepRead_27 ⟨Nat.le_of_ble_eq_true rfl, Nat.le_of_ble_eq_true rfl⟩ hs rfl hP (fun r7 F7 H7 l7 hp hP => ?_)
      obtain ⟨rfl, ⟨b8, rfl⟩ | ⟨b8, rfl⟩⟩ := hp
      · refine sx_if_eq X (by decide) (tgt := 46) dX2_keepRead_30 (by decide) (fun h => absurd h (by decide)) (fun _ => ?_)
        refine lv_aload_n X.1.1 X.1.2.1 dX2_keepRead_33 rfl (lv_at hl 1 rfl) ?_
        refine lv_iload_n X.1.1 X.1.2.1 dX2_keepRead_34 rfl (lv_at hl 3 rfl) ?_
        refine sx_put X hP in_X2_keepRead_X2 tyX2 tyX2_ok nmX2 hki (by omega) rfl 2 (by decide) lk_X2_keepRead_fieldLink_RX2_37_RaceWatch_Kept_reader_I rfl rfl rfl (Nat.le_of_ble_eq_true rfl) dX2_keepRead_35 (fun F9 H9 l9 e9 o9 hP => ?_)
        have hki : F9 (ki) = ob 2 ([.int (w (43 + 12 * c)), .int (w (44 + 12 * c)), .int (nI (t)), .int (w (46 + 12 * c)), .int (w (47 + 12 * c)), rf G (kj), .int (w (52 + 12 * c)), .int (w (53 + 12 * c)), .int (w (54 + 12 * c)), .int (gd)]) := e9
        have hkj := (o9 (kj) (by omega)).trans hkj
        have hci := (o9 (ci) (by omega)).trans hci
        have hcj := (o9 (cj) (by omega)).trans hcj
        have hO : ∀ j, j ≠ ki ∧ j ≠ kj → F9 j = F j := fun j hj => (o9 j (by omega)).trans (hO j hj)
        refine lv_aload_n X.1.1 X.1.2.1 dX2_keepRead_38 rfl (lv_at hl 1 rfl) ?_
        refine lv_iload_n X.1.1 X.1.2.1 dX2_keepRead_39 rfl (lv_at hl 0 rfl) ?_
        refine sx_put X hP in_X2_keepRead_X2 tyX2 tyX2_ok nmX2 hki (by omega) rfl 3 (by decide) lk_X2_keepRead_fieldLink_RX2_40_RaceWatch_Kept_readNumber_I rfl rfl rfl (Nat.le_of_ble_eq_true rfl) dX2_keepRead_40 (fun F10 H10 l10 e10 o10 hP => ?_)
        have hki : F10 (ki) = ob 2 ([.int (w (43 + 12 * c)), .int (w (44 + 12 * c)), .int (nI (t)), .int (w (4 + 5 * t)), .int (w (47 + 12 * c)), rf G (kj), .int (w (52 + 12 * c)), .int (w (53 + 12 * c)), .int (w (54 + 12 * c)), .int (gd)]) := e10
        have hkj := (o10 (kj) (by omega)).trans hkj
        have hci := (o10 (ci) (by omega)).trans hci
        have hcj := (o10 (cj) (by omega)).trans hcj
        have hO : ∀ j, j ≠ ki ∧ j ≠ kj → F10 j = F j := fun j hj => (o10 j (by omega)).trans (hO j hj)
        refine lv_goto (tgt := 52) X.1.1 X.1.2.1 dX2_keepRead_43 (by decide) ?_
        have hE : readF w t c = upd (upd w (45 + 12 * c) (nI t)) (46 + 12 * c) (upd w (45 + 12 * c) (nI t) (4 + 5 * t)) := by unfold readF; rw [cif_f (by rw [hSh]; decide), cif_t (fun q => b8 (Or.inl q))]
        rw [hQ]
        exact sx_vret X rfl hs rfl hP dX2_keepRead_52 (⟨hki.trans (by rw [hE, pk_un (j := 43 + 12 * c) (by omega), pk_un (j := 43 + 12 * c) (by omega), pk_un (j := 44 + 12 * c) (by omega), pk_un (j := 44 + 12 * c) (by omega), pk_un (j := 45 + 12 * c) (by omega), pk_us, pk_us, pk_un (j := 4 + 5 * t) (by omega), pk_un (j := 47 + 12 * c) (by omega), pk_un (j := 47 + 12 * c) (by omega), pk_un (j := 52 + 12 * c) (by omega), pk_un (j := 52 + 12 * c) (by omega), pk_un (j := 53 + 12 * c) (by omega), pk_un (j := 53 + 12 * c) (by omega), pk_un (j := 54 + 12 * c) (by omega), pk_un (j := 54 + 12 * c) (by omega)]), ⟨_, hkj, fun k hk => by rw [hE, pk_un (by omega), pk_un (by omega)]; exact hnr k hk⟩, hO⟩)
      · refine sx_if_eq X (by decide) (tgt := 46) dX2_keepRead_30 (by decide) (fun _ => ?_) (fun h => absurd h (by decide))
        refine lv_aload_n X.1.1 X.1.2.1 dX2_keepRead_46 rfl (lv_at hl 1 rfl) ?_
        refine lv_iload_n X.1.1 X.1.2.1 dX2_keepRead_47 rfl (lv_at hl 3 rfl) ?_
        refine lv_iload_n X.1.1 X.1.2.1 dX2_keepRead_48 rfl (lv_at hl 0 rfl) ?_
        rw [hDd] at hki
        refine sx_cvV (As := [.int (nI (t)), .int (w (4 + 5 * t))]) (rest := []) X (mX2_share l (ki := ki) (kj := kj) (u := v) (t := t) (own := (w (4 + 5 * t))) lki lkj m1 hv ht hki hkj) gX2_keepRead_X2_share rfl yv_X2_share ⟨Nat.le_of_ble_eq_true rfl, Nat.le_of_ble_eq_true rfl⟩ hki (by omega) rfl rfl hl.1 rfl (Nat.le_of_ble_eq_true rfl) dX2_keepRead_49 ⟨Nat.le_of_ble_eq_true rfl, Nat.le_of_ble_eq_true rfl⟩ hs rfl hP (fun F11 H11 l11 hp hP => ?_)
        obtain ⟨e11, f11, o11⟩ := hp
        have hki : F11 (ki) = ob 2 ([.int (w (43 + 12 * c)), .int (w (44 + 12 * c)), .int (-1), .int (nI 0), .int (nI 1), rf G (kj), .int (w (52 + 12 * c) + nI 1), .int (w (53 + 12 * c)), .int (w (54 + 12 * c)), .int (gd)]) := e11
        have hkj : F11 (kj) = rI G (4) (upd (upd nr v (w (46 + 12 * c))) t (w (4 + 5 * t))) := f11
        have hci := (o11 (ci) (by omega)).trans hci
        have hcj := (o11 (cj) (by omega)).trans hcj
        have hO : ∀ j, j ≠ ki ∧ j ≠ kj → F11 j = F j := fun j hj => (o11 j (by omega)).trans (hO j hj)
        have hE : readF w t c = promF w t c v := by unfold readF; rw [cif_f (by rw [hSh]; decide), cif_f (fun q => b8 (fun z => z.elim q (fun z2 => absurd (hSh.symm.trans z2.1) (by decide)))), hDd, nI_clamp (by omega)]
        obtain ⟨p1, p2, p3, p4, p5, p6, p7, p8⟩ := promF_flds (w := w) (c := c) ht hv
        rw [hQ]
        exact sx_vret X rfl hs rfl hP dX2_keepRead_52 (⟨hki.trans (by rw [hE, p1, p2, p3, p4, p5, p6, p7, p8]), ⟨_, hkj, fun k hk => by rw [hE, promF_num ht hv hk, upd_at, upd_at, hnr k hk]⟩, hO⟩)
  · refine lv_aload_n X.1.1 X.1.2.1 dX2_keepRead_0 rfl (lv_at hl 1 rfl) ?_
    refine lv_iload_n X.1.1 X.1.2.1 dX2_keepRead_1 rfl (lv_at hl 2 rfl) ?_
    refine lv_iload_n X.1.1 X.1.2.1 dX2_keepRead_2 rfl (lv_at hl 2 rfl) ?_
    refine sx_cvI (As := [.int (nI (t)), .int (nI (t))]) (rest := []) X (mX1_number l (ci := ci) (cj := cj) (L := 16) (row := t) (t := t) (by omega) (by omega) (by decide) (by omega) (by omega) hci hcj) gX2_keepRead_X1_number rfl yv_X1_number ⟨Nat.le_of_ble_eq_true rfl, Nat.le_of_ble_eq_true rfl⟩ hci (by omega) rfl rfl hl.1 rfl (Nat.le_of_ble_eq_true rfl) dX2_keepRead_3 ⟨Nat.le_of_ble_eq_true rfl, Nat.le_of_ble_eq_true rfl⟩ hs rfl hP (fun r12 F12 H12 l12 hp hP => ?_)
    obtain ⟨rfl, rfl⟩ := hp
    rw [show g (4 * t + t) = w (4 + 5 * t) from (hg _ (by omega)).trans (congrArg w (by omega))]
    refine lv_istore_n (lv' := [(3, .int (w (4 + 5 * t))), (0, rf G (ki)), (1, rf G (ci)), (2, .int (nI (t)))]) X.1.1 X.1.2.1 dX2_keepRead_6 rfl hl (by decide) rfl (fun ls hl => ?_)
    refine lv_aload_n X.1.1 X.1.2.1 dX2_keepRead_7 rfl (lv_at hl 1 rfl) ?_
    refine sx_get X hP in_X2_keepRead_X2 hki (by omega) rfl 4 (by decide) lk_X2_keepRead_fieldLink_RX2_43_RaceWatch_Kept_isShared_Z rfl dX2_keepRead_8 ?_
    rw [hSh]
    refine sx_if_eq X (by decide) (tgt := 24) dX2_keepRead_11 (by decide) (fun h => absurd h (by decide)) (fun _ => ?_)
    refine lv_aload_n X.1.1 X.1.2.1 dX2_keepRead_14 rfl (lv_at hl 1 rfl) ?_
    refine sx_get X hP in_X2_keepRead_X2 hki (by omega) rfl 5 (by decide) lk_X2_keepRead_fieldLink_RX2_9_RaceWatch_Kept_readNumbers_I rfl dX2_keepRead_15 ?_
    refine lv_iload_n X.1.1 X.1.2.1 dX2_keepRead_18 rfl (lv_at hl 3 rfl) ?_
    refine lv_iload_n X.1.1 X.1.2.1 dX2_keepRead_19 rfl (lv_at hl 0 rfl) ?_
    refine sx_ast X hP hkj (by omega) (t) (by omega) (by decide) dX2_keepRead_20 (fun F13 H13 l13 e13 o13 hP => ?_)
    obtain ⟨w13, hw13⟩ : ∃ z, z = upd nr (t) (w (4 + 5 * t)) := ⟨_, rfl⟩
    rw [← hw13] at e13
    have hkj : F13 (kj) = rI G (4) (w13) := e13
    have hki := (o13 (ki) (by omega)).trans hki
    have hci := (o13 (ci) (by omega)).trans hci
    have hcj := (o13 (cj) (by omega)).trans hcj
    have hO : ∀ j, j ≠ ki ∧ j ≠ kj → F13 j = F j := fun j hj => (o13 j (by omega)).trans (hO j hj)
    refine lv_goto (tgt := 52) X.1.1 X.1.2.1 dX2_keepRead_21 (by decide) ?_
    have hE : readF w t c = upd w (48 + 12 * c + t) (w (4 + 5 * t)) := by unfold readF; rw [cif_t hSh]
    rw [hQ]
    exact sx_vret X rfl hs rfl hP dX2_keepRead_52 (⟨hki.trans (by rw [hE, pk_un (by omega), pk_un (by omega), pk_un (by omega), pk_un (by omega), pk_un (by omega), pk_un (by omega), pk_un (by omega), pk_un (by omega)]), ⟨_, hkj, fun k hk => by rw [hw13]; rw [hE, upd_sh, upd_at, hnr k hk]⟩, hO⟩)
