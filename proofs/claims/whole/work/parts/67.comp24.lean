/-- the TELLING (cells 84 to 90) and the WORLD show a state of a text that is RUN -/
def TP (G : sx_G) (F : Nat → va_E) (q0 q1 dv iv wv : Value) (T : TT) : Prop := match T with
  | (w, n, en, jo, _, _, _, d, ol, ot) => F 84 = ob 4 [q0, q1, rf G 85, rf G 88, dv, iv, wv, .int (nI (rgF ol d)), .int (nI d), rf G 89, rf G 90] ∧ WV G F w n 1 ∧ (∃ jl jp, F 85 = ob 0 [.int (nI en), rf G 86, rf G 87] ∧ F 86 = rI G 24 jl ∧ F 87 = rI G 24 jp ∧ BkV en jo jl jp) ∧ ∃ lo tb, F 89 = rI G 240 lo ∧ F 90 = rI G 240 tb ∧ ∀ j, j < d → lo j = ol j ∧ tb j = ot j
theorem shutT_who {w : Nat → Int32} {n en : Nat} {jo : Nat → Int32} {due it who d : Nat} {ol ot : Nat → Int32} : (shutT (w, n, en, jo, due, it, who, d, ol, ot)).2.2.2.2.2.2.1 = (ot (d - 1)).toNatClampNeg := by
  unfold shutT; dsimp only
  by_cases h : ol (d - 1) = -1
  · rw [cif_t h]
  · rw [cif_f h]
theorem canB_iff {w st ho ct cl cs : Nat → Int32} {t s x : Nat} (hRV : RV w st ho ct cl cs) (ht : t < 4) (hs8 : s < 8) (hx : x < boundF s) : (st t = nI 1 ∧ (s = 2 → ho x = -1) ∧ (s = 3 → ho x = nI t) ∧ (s = 6 → st x = nI 0) ∧ (s = 7 → x ≠ t ∧ st x = nI 1 ∧ heldF ho (nI x) = 0)) ↔ (6 ≤ s → x ≠ t) ∧ canF w t s x := by
  constructor
  · intro h
    have hxt : 6 ≤ s → x ≠ t := fun q e => by
      by_cases h6 : s = 6
      · have a := h.2.2.2.1 h6
        rw [e, h.1] at a
        exact absurd a (by decide)
      · exact (h.2.2.2.2 (by omega)).1 e
    exact ⟨hxt, (can_iff hRV ht hs8 hx hxt).mp h⟩
  · intro h
    exact (can_iff hRV ht hs8 hx h.1).mpr h.2
theorem ys_X4_shutLast : yX4_shutLast.cls ≠ "java/lang/invoke/MethodHandle" ∧ yX4_shutLast.cls ≠ "java/lang/invoke/VarHandle" ∧ (parseMethodDescriptor yX4_shutLast.desc).map (fun d => d.parameters.length) = some 1 := by decide +kernel
theorem yv_X4_shutLast : yX4_shutLast.cls = RX4 ∧ yX4_shutLast.cls ≠ "java/lang/invoke/MethodHandle" ∧ yX4_shutLast.cls ≠ "java/lang/invoke/VarHandle" ∧ (parseMethodDescriptor yX4_shutLast.desc).map (fun d => d.parameters.length) = some 1 := ⟨rfl, ys_X4_shutLast⟩
theorem in_X4_shutLast_X4 : ∀ w ∈ wsX40, w ∈ wsX4_shutLast := fun _ h => List.mem_cons_of_mem _ (List.mem_append_left _ (List.mem_append_left _ (List.mem_append_left _ (List.mem_append_left _ (List.mem_append_left _ (List.mem_append_right _ (h)))))))
theorem lk_X4_shutLast_fieldLink_RX4_45_RaceWatch_Telling_depth_I : (.fieldLink RX4 45 "RaceWatch$Telling" "depth" "I" : Cond) ∈ wsX4_shutLast := List.mem_cons_of_mem _ (List.mem_append_left _ (List.mem_append_left _ (List.mem_append_left _ (List.mem_append_left _ (List.mem_append_left _ (List.mem_append_left _ (List.mem_append_left _ (List.mem_of_getElem? (i := 0) rfl))))))))
theorem lk_X4_shutLast_fieldLink_RX4_29_RaceWatch_Telling_threadBefore_I : (.fieldLink RX4 29 "RaceWatch$Telling" "threadBefore" "[I" : Cond) ∈ wsX4_shutLast := List.mem_cons_of_mem _ (List.mem_append_left _ (List.mem_append_left _ (List.mem_append_left _ (List.mem_append_left _ (List.mem_append_left _ (List.mem_append_left _ (List.mem_append_left _ (List.mem_of_getElem? (i := 1) rfl))))))))
theorem lk_X4_shutLast_fieldLink_RX4_39_RaceWatch_Telling_threadAtIt_I : (.fieldLink RX4 39 "RaceWatch$Telling" "threadAtIt" "I" : Cond) ∈ wsX4_shutLast := List.mem_cons_of_mem _ (List.mem_append_left _ (List.mem_append_left _ (List.mem_append_left _ (List.mem_append_left _ (List.mem_append_left _ (List.mem_append_left _ (List.mem_append_left _ (List.mem_of_getElem? (i := 2) rfl))))))))
theorem lk_X4_shutLast_fieldLink_RX4_26_RaceWatch_Telling_lockOf_I : (.fieldLink RX4 26 "RaceWatch$Telling" "lockOf" "[I" : Cond) ∈ wsX4_shutLast := List.mem_cons_of_mem _ (List.mem_append_left _ (List.mem_append_left _ (List.mem_append_left _ (List.mem_append_left _ (List.mem_append_left _ (List.mem_append_left _ (List.mem_append_left _ (List.mem_of_getElem? (i := 3) rfl))))))))
theorem lk_X4_shutLast_fieldLink_RX4_42_RaceWatch_Telling_openRegions_I : (.fieldLink RX4 42 "RaceWatch$Telling" "openRegions" "I" : Cond) ∈ wsX4_shutLast := List.mem_cons_of_mem _ (List.mem_append_left _ (List.mem_append_left _ (List.mem_append_left _ (List.mem_append_left _ (List.mem_append_left _ (List.mem_append_left _ (List.mem_append_left _ (List.mem_of_getElem? (i := 4) rfl))))))))
theorem lk_X4_shutLast_fieldLink_RX4_18_RaceWatch_Telling_book_LRaceWatch_Book : (.fieldLink RX4 18 "RaceWatch$Telling" "book" "LRaceWatch$Book;" : Cond) ∈ wsX4_shutLast := List.mem_cons_of_mem _ (List.mem_append_left _ (List.mem_append_left _ (List.mem_append_left _ (List.mem_append_left _ (List.mem_append_left _ (List.mem_append_left _ (List.mem_append_left _ (List.mem_of_getElem? (i := 5) rfl))))))))
abbrev rmX4_shutLast : Room := { frames := 5, cells := 0, slots := 0, locals := 134 }
set_option maxHeartbeats 800000 in
set_option maxRecDepth 100000 in
theorem mX4_shutLast {G : sx_G} (l : Launch) {F : Nat → va_E} {q0 q1 dv iv wv : Value} {w jo ol ot : Nat → Int32} {A : Nat → Nat} {i len n en due it who d : Nat}  (hT : TP G F q0 q1 dv iv wv (w, n, en, jo, due, it, who, d, ol, ot)) (hIT : IT A len i (w, n, en, jo, due, it, who, d, ol, ot)) (hd : 0 < d) (hi : i ≤ len) : sx_V G l yX4_shutLast wsX4_shutLast rmX4_shutLast [rf G 84, rf G 1] (97) F (97) (fun F1 => ∃ t, t < 4 ∧ ot (d - 1) = nI t ∧ TP G F1 q0 q1 dv iv (.int (nI t)) (shutT (w, n, en, jo, due, it, who, d, ol, ot)) ∧ ∀ j, j = 0 ∨ (27 < j ∧ j < 84) ∨ j = 88 ∨ 90 < j → F1 j = F j) := by
  refine sx_enter (cc := cX4_shutLast) (maxL := 3) (ret := none) (own := RX4) (nm := "shutLast") (by decide) rfl rfl rfl (Nat.le_of_ble_eq_true rfl) ?_
  intro pp ee ss mm args below meth kc ls Q hQ X hs hP hl
  have hl : lv_has ls 3 [(0, rf G 84), (1, rf G 1)] := hl
  have hO : ∀ j, j = 0 ∨ (27 < j ∧ j < 84) ∨ j = 88 ∨ 90 < j → F j = F j := fun _ _ => rfl
  obtain ⟨h84, hW, ⟨jl, jp, h85, h86, h87, hBk⟩, lw, tb, h89, h90, hag⟩ := id hT
  have h1 := WV.obj hW
  obtain ⟨hwf, hrg, hdi, hwho, hen, hjo, hst, ⟨hch1, hch2⟩, hA⟩ := id hIT
  have hn := hwf.2.1
  have hl240 := hA.2.1
  have hrl := rgF_le ol d
  have h84 : F 84 = ob 4 ([q0, q1, rf G 85, rf G 88, dv, iv, wv, .int (nI (rgF ol d)), .int (nI (d)), rf G 89, rf G 90]) := h84
  have h85 : F 85 = ob 0 ([.int (nI (en)), rf G 86, rf G 87]) := h85
  have h86 : F 86 = rI G (24) (jl) := h86
  have h87 : F 87 = rI G (24) (jp) := h87
  have h89 : F 89 = rI G (240) (lw) := h89
  have h90 : F 90 = rI G (240) (tb) := h90
  obtain ⟨hlk, t, ht, hth⟩ := hst (d - 1) (by omega)
  have htb := (hag (d - 1) (by omega)).2.trans hth
  rcases hlk with hlk | ⟨x, hx3, hlk⟩
  · have hlo := (hag (d - 1) (by omega)).1.trans hlk
    have hr2 := rgF_same hd hlk
    refine lv_aload_n X.1.1 X.1.2.1 dX4_shutLast_0 rfl (lv_at hl 0 rfl) ?_
    refine lv_dup X.1.1 X.1.2.1 dX4_shutLast_1 rfl ?_
    refine sx_get X hP in_X4_shutLast_X4 h84 (by decide) rfl 8 (by decide) lk_X4_shutLast_fieldLink_RX4_45_RaceWatch_Telling_depth_I rfl dX4_shutLast_2 ?_
    refine lv_iconst (v := nI 1) X.1.1 X.1.2.1 dX4_shutLast_5 (by decide) ?_
    refine sx_subN X ((d - 1)) (by omega) (by omega) dX4_shutLast_6 ?_
    refine sx_put X hP in_X4_shutLast_X4 tyX4 tyX4_ok nmX4 h84 (by decide) rfl 8 (by decide) lk_X4_shutLast_fieldLink_RX4_45_RaceWatch_Telling_depth_I rfl rfl rfl (Nat.le_of_ble_eq_true rfl) dX4_shutLast_7 (fun F1 H1 l1 e1 o1 hP => ?_)
    have h84 : F1 (84) = ob 4 ([q0, q1, rf G 85, rf G 88, dv, iv, wv, .int (nI (rgF ol d)), .int (nI ((d - 1))), rf G 89, rf G 90]) := e1
    have h85 := (o1 (85) (by decide)).trans h85
    have h86 := (o1 (86) (by decide)).trans h86
    have h87 := (o1 (87) (by decide)).trans h87
    have h89 := (o1 (89) (by decide)).trans h89
    have h90 := (o1 (90) (by decide)).trans h90
    have h1 := (o1 (1) (by decide)).trans h1
    have hO : ∀ j, j = 0 ∨ (27 < j ∧ j < 84) ∨ j = 88 ∨ 90 < j → F1 j = F j := fun j hj => (o1 j (by omega)).trans (hO j hj)
    have hW := WV.upd hW (fun j a b => o1 j (by omega))
    refine lv_aload_n X.1.1 X.1.2.1 dX4_shutLast_10 rfl (lv_at hl 0 rfl) ?_
    refine lv_aload_n X.1.1 X.1.2.1 dX4_shutLast_11 rfl (lv_at hl 0 rfl) ?_
    refine sx_get X hP in_X4_shutLast_X4 h84 (by decide) rfl 10 (by decide) lk_X4_shutLast_fieldLink_RX4_29_RaceWatch_Telling_threadBefore_I rfl dX4_shutLast_12 ?_
    refine lv_aload_n X.1.1 X.1.2.1 dX4_shutLast_15 rfl (lv_at hl 0 rfl) ?_
    refine sx_get X hP in_X4_shutLast_X4 h84 (by decide) rfl 8 (by decide) lk_X4_shutLast_fieldLink_RX4_45_RaceWatch_Telling_depth_I rfl dX4_shutLast_16 ?_
    refine sx_ald X hP h90 (by decide) ((d - 1)) (by omega) (by decide) dX4_shutLast_19 ?_
    rw [htb]
    refine sx_put X hP in_X4_shutLast_X4 tyX4 tyX4_ok nmX4 h84 (by decide) rfl 6 (by decide) lk_X4_shutLast_fieldLink_RX4_39_RaceWatch_Telling_threadAtIt_I rfl rfl rfl (Nat.le_of_ble_eq_true rfl) dX4_shutLast_20 (fun F2 H2 l2 e2 o2 hP => ?_)
    have h84 : F2 (84) = ob 4 ([q0, q1, rf G 85, rf G 88, dv, iv, .int (nI (t)), .int (nI (rgF ol d)), .int (nI ((d - 1))), rf G 89, rf G 90]) := e2
    have h85 := (o2 (85) (by decide)).trans h85
    have h86 := (o2 (86) (by decide)).trans h86
    have h87 := (o2 (87) (by decide)).trans h87
    have h89 := (o2 (89) (by decide)).trans h89
    have h90 := (o2 (90) (by decide)).trans h90
    have h1 := (o2 (1) (by decide)).trans h1
    have hO : ∀ j, j = 0 ∨ (27 < j ∧ j < 84) ∨ j = 88 ∨ 90 < j → F2 j = F j := fun j hj => (o2 j (by omega)).trans (hO j hj)
    have hW := WV.upd hW (fun j a b => o2 j (by omega))
    refine lv_aload_n X.1.1 X.1.2.1 dX4_shutLast_23 rfl (lv_at hl 0 rfl) ?_
    refine sx_get X hP in_X4_shutLast_X4 h84 (by decide) rfl 9 (by decide) lk_X4_shutLast_fieldLink_RX4_26_RaceWatch_Telling_lockOf_I rfl dX4_shutLast_24 ?_
    refine lv_aload_n X.1.1 X.1.2.1 dX4_shutLast_27 rfl (lv_at hl 0 rfl) ?_
    refine sx_get X hP in_X4_shutLast_X4 h84 (by decide) rfl 8 (by decide) lk_X4_shutLast_fieldLink_RX4_45_RaceWatch_Telling_depth_I rfl dX4_shutLast_28 ?_
    refine sx_ald X hP h89 (by decide) ((d - 1)) (by omega) (by decide) dX4_shutLast_31 ?_
    rw [hlo]
    refine lv_istore_n (lv' := [(2, .int (-1)), (0, rf G 84), (1, rf G 1)]) X.1.1 X.1.2.1 dX4_shutLast_32 rfl hl (by decide) rfl (fun ls hl => ?_)
    refine lv_iload_n X.1.1 X.1.2.1 dX4_shutLast_33 rfl (lv_at hl 0 rfl) ?_
    refine lv_iconst (v := (-1)) X.1.1 X.1.2.1 dX4_shutLast_34 (by decide) ?_
    refine lv_icmp_eq X.1.1 X.1.2.1 (tgt := 68) dX4_shutLast_35 (by decide) (fun _ => ?_) (fun h => absurd rfl h)
    rw [hQ]
    exact sx_vret X rfl hs rfl hP dX4_shutLast_68 (⟨t, ht, hth, by rw [shutT_no hlk ht hth]; exact ⟨h84.trans (by rw [hr2]), hW, ⟨_, _, h85, h86, h87, hBk⟩, _, _, h89, h90, fun j hj => hag j (by omega)⟩, hO⟩)
  · have hlo := (hag (d - 1) (by omega)).1.trans hlk
    have hne : ¬ ol (d - 1) = -1 := by rw [hlk]; exact sx_m1 (by omega)
    have hr2 := rgF_pred hd hne
    have hx3b : x < boundF 3 := hx3
    refine lv_aload_n X.1.1 X.1.2.1 dX4_shutLast_0 rfl (lv_at hl 0 rfl) ?_
    refine lv_dup X.1.1 X.1.2.1 dX4_shutLast_1 rfl ?_
    refine sx_get X hP in_X4_shutLast_X4 h84 (by decide) rfl 8 (by decide) lk_X4_shutLast_fieldLink_RX4_45_RaceWatch_Telling_depth_I rfl dX4_shutLast_2 ?_
    refine lv_iconst (v := nI 1) X.1.1 X.1.2.1 dX4_shutLast_5 (by decide) ?_
    refine sx_subN X ((d - 1)) (by omega) (by omega) dX4_shutLast_6 ?_
    refine sx_put X hP in_X4_shutLast_X4 tyX4 tyX4_ok nmX4 h84 (by decide) rfl 8 (by decide) lk_X4_shutLast_fieldLink_RX4_45_RaceWatch_Telling_depth_I rfl rfl rfl (Nat.le_of_ble_eq_true rfl) dX4_shutLast_7 (fun F3 H3 l3 e3 o3 hP => ?_)
    have h84 : F3 (84) = ob 4 ([q0, q1, rf G 85, rf G 88, dv, iv, wv, .int (nI (rgF ol d)), .int (nI ((d - 1))), rf G 89, rf G 90]) := e3
    have h85 := (o3 (85) (by decide)).trans h85
    have h86 := (o3 (86) (by decide)).trans h86
    have h87 := (o3 (87) (by decide)).trans h87
    have h89 := (o3 (89) (by decide)).trans h89
    have h90 := (o3 (90) (by decide)).trans h90
    have h1 := (o3 (1) (by decide)).trans h1
    have hO : ∀ j, j = 0 ∨ (27 < j ∧ j < 84) ∨ j = 88 ∨ 90 < j → F3 j = F j := fun j hj => (o3 j (by omega)).trans (hO j hj)
    have hW := WV.upd hW (fun j a b => o3 j (by omega))
    refine lv_aload_n X.1.1 X.1.2.1 dX4_shutLast_10 rfl (lv_at hl 0 rfl) ?_
    refine lv_aload_n X.1.1 X.1.2.1 dX4_shutLast_11 rfl (lv_at hl 0 rfl) ?_
    refine sx_get X hP in_X4_shutLast_X4 h84 (by decide) rfl 10 (by decide) lk_X4_shutLast_fieldLink_RX4_29_RaceWatch_Telling_threadBefore_I rfl dX4_shutLast_12 ?_
    refine lv_aload_n X.1.1 X.1.2.1 dX4_shutLast_15 rfl (lv_at hl 0 rfl) ?_
    refine sx_get X hP in_X4_shutLast_X4 h84 (by decide) rfl 8 (by decide) lk_X4_shutLast_fieldLink_RX4_45_RaceWatch_Telling_depth_I rfl dX4_shutLast_16 ?_
    refine sx_ald X hP h90 (by decide) ((d - 1)) (by omega) (by decide) dX4_shutLast_19 ?_
    rw [htb]
    refine sx_put X hP in_X4_shutLast_X4 tyX4 tyX4_ok nmX4 h84 (by decide) rfl 6 (by decide) lk_X4_shutLast_fieldLink_RX4_39_RaceWatch_Telling_threadAtIt_I rfl rfl rfl (Nat.le_of_ble_eq_true rfl) dX4_shutLast_20 (fun F4 H4 l4 e4 o4 hP => ?_)
    have h84 : F4 (84) = ob 4 ([q0, q1, rf G 85, rf G 88, dv, iv, .int (nI (t)), .int (nI (rgF ol d)), .int (nI ((d - 1))), rf G 89, rf G 90]) := e4
    have h85 := (o4 (85) (by decide)).trans h85
    have h86 := (o4 (86) (by decide)).trans h86
    have h87 := (o4 (87) (by decide)).trans h87
    have h89 := (o4 (89) (by decide)).trans h89
    have h90 := (o4 (90) (by decide)).trans h90
    have h1 := (o4 (1) (by decide)).trans h1
    have hO : ∀ j, j = 0 ∨ (27 < j ∧ j < 84) ∨ j = 88 ∨ 90 < j → F4 j = F j := fun j hj => (o4 j (by omega)).trans (hO j hj)
    have hW := WV.upd hW (fun j a b => o4 j (by omega))
    refine lv_aload_n X.1.1 X.1.2.1 dX4_shutLast_23 rfl (lv_at hl 0 rfl) ?_
    refine sx_get X hP in_X4_shutLast_X4 h84 (by decide) rfl 9 (by decide) lk_X4_shutLast_fieldLink_RX4_26_RaceWatch_Telling_lockOf_I rfl dX4_shutLast_24 ?_
    refine lv_aload_n X.1.1 X.1.2.1 dX4_shutLast_27 rfl (lv_at hl 0 rfl) ?_
    refine sx_get X hP in_X4_shutLast_X4 h84 (by decide) rfl 8 (by decide) lk_X4_shutLast_fieldLink_RX4_45_RaceWatch_Telling_depth_I rfl dX4_shutLast_28 ?_
    refine sx_ald X hP h89 (by decide) ((d - 1)) (by omega) (by decide) dX4_shutLast_31 ?_
    rw [hlo]
    refine lv_istore_n (lv' := [(2, .int (nI (x))), (0, rf G 84), (1, rf G 1)]) X.1.1 X.1.2.1 dX4_shutLast_32 rfl hl (by decide) rfl (fun ls hl => ?_)
    refine lv_iload_n X.1.1 X.1.2.1 dX4_shutLast_33 rfl (lv_at hl 0 rfl) ?_
    refine lv_iconst (v := (-1)) X.1.1 X.1.2.1 dX4_shutLast_34 (by decide) ?_
    refine lv_icmp_eq X.1.1 X.1.2.1 (tgt := 68) dX4_shutLast_35 (by decide) (fun h => absurd h (sx_m1 (by omega))) (fun _ => ?_)
    refine lv_aload_n X.1.1 X.1.2.1 dX4_shutLast_38 rfl (lv_at hl 2 rfl) ?_
    refine lv_aload_n X.1.1 X.1.2.1 dX4_shutLast_39 rfl (lv_at hl 1 rfl) ?_
    refine sx_get X hP in_X4_shutLast_X4 h84 (by decide) rfl 6 (by decide) lk_X4_shutLast_fieldLink_RX4_39_RaceWatch_Telling_threadAtIt_I rfl dX4_shutLast_40 ?_
    refine lv_iconst (v := nI 3) X.1.1 X.1.2.1 dX4_shutLast_43 (by decide) ?_
    refine lv_iload_n X.1.1 X.1.2.1 dX4_shutLast_44 rfl (lv_at hl 0 rfl) ?_
    refine sx_cvI (As := [.int (nI (t)), .int (nI 3), .int (nI (x))]) (rest := []) X (mX5_come l (w := w) (M := n) (t := t) (s := 3) (x := x) hW hwf (by omega) ht (by decide) hx3b (fun q => absurd q (by decide))) gX4_shutLast_X5_come rfl yv_X5_come ⟨Nat.le_of_ble_eq_true rfl, Nat.le_of_ble_eq_true rfl⟩ h1 (by decide) rfl rfl hl.1 rfl (Nat.le_of_ble_eq_true rfl) dX4_shutLast_45 ⟨Nat.le_of_ble_eq_true rfl, Nat.le_of_ble_eq_true rfl⟩ hs rfl hP (fun r5 F5 H5 l5 hp hP => ?_)
    obtain ⟨hW, o5, rfl⟩ := hp
    have h84 := (o5 84 (by decide)).trans h84
    have h85 := (o5 85 (by decide)).trans h85
    have h86 := (o5 86 (by decide)).trans h86
    have h87 := (o5 87 (by decide)).trans h87
    have h89 := (o5 89 (by decide)).trans h89
    have h90 := (o5 90 (by decide)).trans h90
    have hO : ∀ j, j = 0 ∨ (27 < j ∧ j < 84) ∨ j = 88 ∨ 90 < j → F5 j = F j := fun j hj => (o5 j (by omega)).trans (hO j hj)
    have h1 := WV.obj hW
    refine lv_pop X.1.1 X.1.2.1 dX4_shutLast_48 rfl ?_
    refine lv_aload_n X.1.1 X.1.2.1 dX4_shutLast_49 rfl (lv_at hl 1 rfl) ?_
    refine lv_dup X.1.1 X.1.2.1 dX4_shutLast_50 rfl ?_
    refine sx_get X hP in_X4_shutLast_X4 h84 (by decide) rfl 7 (by decide) lk_X4_shutLast_fieldLink_RX4_42_RaceWatch_Telling_openRegions_I rfl dX4_shutLast_51 ?_
    refine lv_iconst (v := nI 1) X.1.1 X.1.2.1 dX4_shutLast_54 (by decide) ?_
    refine sx_subN X ((rgF ol d - 1)) (by omega) (by omega) dX4_shutLast_55 ?_
    refine sx_put X hP in_X4_shutLast_X4 tyX4 tyX4_ok nmX4 h84 (by decide) rfl 7 (by decide) lk_X4_shutLast_fieldLink_RX4_42_RaceWatch_Telling_openRegions_I rfl rfl rfl (Nat.le_of_ble_eq_true rfl) dX4_shutLast_56 (fun F6 H6 l6 e6 o6 hP => ?_)
    have h84 : F6 (84) = ob 4 ([q0, q1, rf G 85, rf G 88, dv, iv, .int (nI (t)), .int (nI ((rgF ol d - 1))), .int (nI ((d - 1))), rf G 89, rf G 90]) := e6
    have h85 := (o6 (85) (by decide)).trans h85
    have h86 := (o6 (86) (by decide)).trans h86
    have h87 := (o6 (87) (by decide)).trans h87
    have h89 := (o6 (89) (by decide)).trans h89
    have h90 := (o6 (90) (by decide)).trans h90
    have h1 := (o6 (1) (by decide)).trans h1
    have hO : ∀ j, j = 0 ∨ (27 < j ∧ j < 84) ∨ j = 88 ∨ 90 < j → F6 j = F j := fun j hj => (o6 j (by omega)).trans (hO j hj)
    have hW := WV.upd hW (fun j a b => o6 j (by omega))
    refine lv_aload_n X.1.1 X.1.2.1 dX4_shutLast_59 rfl (lv_at hl 1 rfl) ?_
    refine sx_get X hP in_X4_shutLast_X4 h84 (by decide) rfl 2 (by decide) lk_X4_shutLast_fieldLink_RX4_18_RaceWatch_Telling_book_LRaceWatch_Book rfl dX4_shutLast_60 ?_
    refine lv_iload_n X.1.1 X.1.2.1 dX4_shutLast_63 rfl (lv_at hl 0 rfl) ?_
    refine lv_iconst (v := nI 0) X.1.1 X.1.2.1 dX4_shutLast_64 (by decide) ?_
    refine sx_cvV (As := [.int (nI (x)), .int (nI 0)]) (rest := []) X (mX0_enter l (en := en) (a := (nI (x))) (b := (nI (0))) hen h85 h86 h87) gX4_shutLast_X0_enter rfl yv_X0_enter ⟨Nat.le_of_ble_eq_true rfl, Nat.le_of_ble_eq_true rfl⟩ h85 (by decide) rfl rfl hl.1 rfl (Nat.le_of_ble_eq_true rfl) dX4_shutLast_65 ⟨Nat.le_of_ble_eq_true rfl, Nat.le_of_ble_eq_true rfl⟩ hs rfl hP (fun F7 H7 l7 hp hP => ?_)
    obtain ⟨e7, f7, g7, o7⟩ := hp
    have h84 := (o7 (84) (by decide)).trans h84
    have h85 : F7 (85) = ob 0 ([.int (nI (jnE en)), rf G 86, rf G 87]) := e7
    have h86 : F7 (86) = rI G (24) (upd (va_cpy jl jl 0 1 23) 0 (nI (x))) := f7
    have h87 : F7 (87) = rI G (24) (upd (va_cpy jp jp 0 1 23) 0 (nI (0))) := g7
    have h89 := (o7 (89) (by decide)).trans h89
    have h90 := (o7 (90) (by decide)).trans h90
    have h1 := (o7 (1) (by decide)).trans h1
    have hO : ∀ j, j = 0 ∨ (27 < j ∧ j < 84) ∨ j = 88 ∨ 90 < j → F7 j = F j := fun j hj => (o7 j (by omega)).trans (hO j hj)
    have hW := WV.upd hW (fun j a b => o7 j (by omega))
    rw [hQ]
    exact sx_vret X rfl hs rfl hP dX4_shutLast_68 (⟨t, ht, hth, by rw [shutT_lk hx3 hlk ht hth]; exact ⟨h84.trans (by rw [show rgF ol d - 1 = rgF ol (d - 1) by omega]), hW, ⟨_, _, h85, h86, h87, Bk_enter (b := 0) hBk hen hx3 (by decide)⟩, _, _, h89, h90, fun j hj => hag j (by omega)⟩, hO⟩)
theorem ys_X4_tellEvent : yX4_tellEvent.cls ≠ "java/lang/invoke/MethodHandle" ∧ yX4_tellEvent.cls ≠ "java/lang/invoke/VarHandle" ∧ (parseMethodDescriptor yX4_tellEvent.desc).map (fun d => d.parameters.length) = some 2 := by decide +kernel
theorem yv_X4_tellEvent : yX4_tellEvent.cls = RX4 ∧ yX4_tellEvent.cls ≠ "java/lang/invoke/MethodHandle" ∧ yX4_tellEvent.cls ≠ "java/lang/invoke/VarHandle" ∧ (parseMethodDescriptor yX4_tellEvent.desc).map (fun d => d.parameters.length) = some 2 := ⟨rfl, ys_X4_tellEvent⟩
theorem in_X4_tellEvent_X4 : ∀ w ∈ wsX40, w ∈ wsX4_tellEvent := fun _ h => List.mem_cons_of_mem _ (List.mem_append_left _ (List.mem_append_left _ (List.mem_append_left _ (List.mem_append_left _ (List.mem_append_left _ (List.mem_append_right _ (h)))))))
theorem lk_X4_tellEvent_fieldLink_RX4_52_RaceWatch_Telling_item_I : (.fieldLink RX4 52 "RaceWatch$Telling" "item" "I" : Cond) ∈ wsX4_tellEvent := List.mem_cons_of_mem _ (List.mem_append_left _ (List.mem_append_left _ (List.mem_append_left _ (List.mem_append_left _ (List.mem_append_left _ (List.mem_append_left _ (List.mem_append_left _ (List.mem_of_getElem? (i := 0) rfl))))))))
theorem in_X4_tellEvent_X5 : ∀ w ∈ wsX50, w ∈ wsX4_tellEvent := fun _ h => List.mem_cons_of_mem _ (List.mem_append_left _ (List.mem_append_left _ (List.mem_append_left _ (List.mem_append_left _ (List.mem_append_right _ (h))))))
theorem lk_X4_tellEvent_fieldLink_RX4_85_RaceWatch_World_log_LRaceWatch_Log : (.fieldLink RX4 85 "RaceWatch$World" "log" "LRaceWatch$Log;" : Cond) ∈ wsX4_tellEvent := List.mem_cons_of_mem _ (List.mem_append_left _ (List.mem_append_left _ (List.mem_append_left _ (List.mem_append_left _ (List.mem_append_left _ (List.mem_append_left _ (List.mem_append_left _ (List.mem_of_getElem? (i := 1) rfl))))))))
theorem lk_X4_tellEvent_fieldLink_RX4_42_RaceWatch_Telling_openRegions_I : (.fieldLink RX4 42 "RaceWatch$Telling" "openRegions" "I" : Cond) ∈ wsX4_tellEvent := List.mem_cons_of_mem _ (List.mem_append_left _ (List.mem_append_left _ (List.mem_append_left _ (List.mem_append_left _ (List.mem_append_left _ (List.mem_append_left _ (List.mem_append_left _ (List.mem_of_getElem? (i := 2) rfl))))))))
theorem lk_X4_tellEvent_fieldLink_RX4_39_RaceWatch_Telling_threadAtIt_I : (.fieldLink RX4 39 "RaceWatch$Telling" "threadAtIt" "I" : Cond) ∈ wsX4_tellEvent := List.mem_cons_of_mem _ (List.mem_append_left _ (List.mem_append_left _ (List.mem_append_left _ (List.mem_append_left _ (List.mem_append_left _ (List.mem_append_left _ (List.mem_append_left _ (List.mem_of_getElem? (i := 3) rfl))))))))
theorem lk_X4_tellEvent_fieldLink_RX4_36_RaceWatch_Telling_due_I : (.fieldLink RX4 36 "RaceWatch$Telling" "due" "I" : Cond) ∈ wsX4_tellEvent := List.mem_cons_of_mem _ (List.mem_append_left _ (List.mem_append_left _ (List.mem_append_left _ (List.mem_append_left _ (List.mem_append_left _ (List.mem_append_left _ (List.mem_append_left _ (List.mem_of_getElem? (i := 4) rfl))))))))
theorem lk_X4_tellEvent_fieldLink_RX4_18_RaceWatch_Telling_book_LRaceWatch_Book : (.fieldLink RX4 18 "RaceWatch$Telling" "book" "LRaceWatch$Book;" : Cond) ∈ wsX4_tellEvent := List.mem_cons_of_mem _ (List.mem_append_left _ (List.mem_append_left _ (List.mem_append_left _ (List.mem_append_left _ (List.mem_append_left _ (List.mem_append_left _ (List.mem_append_left _ (List.mem_of_getElem? (i := 5) rfl))))))))
abbrev rmX4_tellEvent : Room := { frames := 5, cells := 0, slots := 0, locals := 134 }
set_option maxHeartbeats 800000 in
set_option maxRecDepth 100000 in
theorem mX4_tellEvent {G : sx_G} (l : Launch) {F : Nat → va_E} {q0 q1 dv  : Value} {w jo ol ot : Nat → Int32} {A : Nat → Nat} {i len n en due it who d : Nat} {x : Nat}  (hT : TP G F q0 q1 dv (.int (nI it)) (.int (nI who)) (w, n, en, jo, due, it, who, d, ol, ot)) (hIT : IT A len i (w, n, en, jo, due, it, who, d, ol, ot)) (hi : i < len) (hit : it < 8) (hx : x < boundF it) : sx_I G l yX4_tellEvent wsX4_tellEvent rmX4_tellEvent [rf G 84, .int (nI (x)), rf G 1] (97) F (97) (fun r F1 => (160 < n + moreF it + rgF ol d ∧ F1 = F ∧ nI 3 = r) ∨ (n + moreF it + rgF ol d ≤ 160 ∧ ¬ okT w who it x ∧ F1 = F ∧ nI 4 = r) ∨ (n + moreF it + rgF ol d ≤ 160 ∧ okT w who it x ∧ nI 0 = r ∧ (∀ j, j = 0 ∨ (27 < j ∧ j < 84) ∨ j = 88 ∨ 90 < j → F1 j = F j) ∧ (¬ it = 2 ∧ TP G F1 q0 q1 (.int (nI 2)) (.int (nI it)) (.int (nI who)) (comeF w n who it x, 1 + n, en, jo, 2, it, who, d, ol, ot) ∨ it = 2 ∧ TP G F1 q0 q1 (.int (nI 3)) (.int (nI it)) (.int (nI who)) (comeF w n who it x, 1 + n, jnE en, jnR en jo (nI (1 + 2 * x)), 3, it, who, 1 + d, upd ol d (nI x), upd ot d (nI who))))) := by
  refine sx_enter (cc := cX4_tellEvent) (maxL := 4) (ret := some .int) (own := RX4) (nm := "tellEvent") (by decide) rfl rfl rfl (Nat.le_of_ble_eq_true rfl) ?_
  intro pp ee ss mm args below meth kc ls Q hQ X hs hP hl
  have hl : lv_has ls 4 [(0, rf G 84), (1, .int (nI (x))), (2, rf G 1)] := hl
  have hO : ∀ j, j = 0 ∨ (27 < j ∧ j < 84) ∨ j = 88 ∨ 90 < j → F j = F j := fun _ _ => rfl
  obtain ⟨h84, hW, ⟨jl, jp, h85, h86, h87, hBk⟩, lw, tb, h89, h90, hag⟩ := id hT
  have h1 := WV.obj hW
  obtain ⟨hwf, hrg, hdi, hwho, hen, hjo, hst, ⟨hch1, hch2⟩, hA⟩ := id hIT
  have hn := hwf.2.1
  have hl240 := hA.2.1
  have hrl := rgF_le ol d
  have h84 : F 84 = ob 4 ([q0, q1, rf G 85, rf G 88, dv, .int (nI (it)), .int (nI (who)), .int (nI (rgF ol d)), .int (nI (d)), rf G 89, rf G 90]) := h84
  have h85 : F 85 = ob 0 ([.int (nI (en)), rf G 86, rf G 87]) := h85
  have h86 : F 86 = rI G (24) (jl) := h86
  have h87 : F 87 = rI G (24) (jp) := h87
  have h89 : F 89 = rI G (240) (lw) := h89
  have h90 : F 90 = rI G (240) (tb) := h90
  have hW0 := hW
  obtain ⟨st, ho, ct, cl, cs, kr, r4, r6, r8, h1, h2, h3, h4, h5, h6, h7, h8, h9, h10, hkr, hRV, hKV, hLg, hRw⟩ := hW
  obtain ⟨th, so, wi, lo, lc, rb, rc, rr, h19, h20, h21, h22, h23, h24, h25, h26, h27, hLV, hRB, hRC⟩ := hLg
  have h1 : F 1 = ob 5 ([rf G 2, rf G 3, rf G 4, rf G 6, rf G 8, rf G 10, rf G 19]) := h1
  have h2 : F 2 = rI G (4) (st) := h2
  have h3 : F 3 = rI G (3) (ho) := h3
  have h4 : F 4 = ob 1 ([r4, rf G 5]) := h4
  have h5 : F 5 = rI G (16) (ct) := h5
  have h6 : F 6 = ob 1 ([r6, rf G 7]) := h6
  have h7 : F 7 = rI G (12) (cl) := h7
  have h8 : F 8 = ob 1 ([r8, rf G 9]) := h8
  have h9 : F 9 = rI G (8) (cs) := h9
  have h10 : F 10 = rK G (4) (kr) := h10
  have h19 : F 19 = ob 3 ([.int (nI (n)), rf G 20, rf G 21, rf G 22, rf G 23, rf G 24, rf G 26, rf G 27]) := h19
  have h20 : F 20 = rI G (160) (th) := h20
  have h21 : F 21 = rI G (160) (so) := h21
  have h22 : F 22 = rI G (160) (wi) := h22
  have h23 : F 23 = rI G (160) (lo) := h23
  have h24 : F 24 = ob 1 ([rr, rf G 25]) := h24
  have h25 : F 25 = rI G (640) (lc) := h25
  have h26 : F 26 = rI G (160) (rb) := h26
  have h27 : F 27 = rI G (12) (rc) := h27
  have hkr : ∀ j, j < 4 → kr j = some (sx_b G + (11 + 2 * j)) := hkr
  have hW := hW0
  have hcb := canB_iff hRV hwho hit hx
  have hmu : ((it = 3 ∨ it = 4 ∨ it = 6) ∧ ct (5 * who) = 2147483647) ↔ (hasS it ∧ w (4 + 5 * who) = 2147483647) := by rw [hRV.2.2.1 (5 * who) (by omega)]; exact Iff.rfl
  refine lv_aload_n X.1.1 X.1.2.1 dX4_tellEvent_0 rfl (lv_at hl 0 rfl) ?_
  refine sx_get X hP in_X4_tellEvent_X4 h84 (by decide) rfl 5 (by decide) lk_X4_tellEvent_fieldLink_RX4_52_RaceWatch_Telling_item_I rfl dX4_tellEvent_1 ?_
  refine lv_iconst (v := nI 2) X.1.1 X.1.2.1 dX4_tellEvent_4 (by decide) ?_
  refine sx_icmp_ne X (by omega) (by decide) (tgt := 12) dX4_tellEvent_5 (by decide) (fun c5 => ?_) (fun c5 => ?_)
  · have hm : moreF it = 1 := if_neg c5
    refine lv_iconst (v := nI 1) X.1.1 X.1.2.1 dX4_tellEvent_12 (by decide) ?_
    refine lv_istore_n (lv' := [(3, .int (nI 1)), (0, rf G 84), (1, .int (nI (x))), (2, rf G 1)]) X.1.1 X.1.2.1 dX4_tellEvent_13 rfl hl (by decide) rfl (fun ls hl => ?_)
    refine lv_aload_n X.1.1 X.1.2.1 dX4_tellEvent_14 rfl (lv_at hl 3 rfl) ?_
    refine sx_get X hP in_X4_tellEvent_X5 h1 (by decide) rfl 6 (by decide) lk_X4_tellEvent_fieldLink_RX4_85_RaceWatch_World_log_LRaceWatch_Log rfl dX4_tellEvent_15 ?_
    refine lv_iload_n X.1.1 X.1.2.1 dX4_tellEvent_18 rfl (lv_at hl 0 rfl) ?_
    refine lv_aload_n X.1.1 X.1.2.1 dX4_tellEvent_19 rfl (lv_at hl 1 rfl) ?_
    refine sx_get X hP in_X4_tellEvent_X4 h84 (by decide) rfl 7 (by decide) lk_X4_tellEvent_fieldLink_RX4_42_RaceWatch_Telling_openRegions_I rfl dX4_tellEvent_20 ?_
    refine sx_addN X (1 + rgF ol d) (by omega) dX4_tellEvent_23 ?_
    refine sx_cvI (As := [.int (nI (1 + rgF ol d))]) (rest := []) X (mX3_hasRoom l (M := n) (k := 1 + rgF ol d) (by omega) (by omega) h19) gX4_tellEvent_X3_hasRoom rfl yv_X3_hasRoom ⟨Nat.le_of_ble_eq_true rfl, Nat.le_of_ble_eq_true rfl⟩ h19 (by decide) rfl rfl hl.1 rfl (Nat.le_of_ble_eq_true rfl) dX4_tellEvent_24 ⟨Nat.le_of_ble_eq_true rfl, Nat.le_of_ble_eq_true rfl⟩ hs rfl hP (fun r1 F1 H1 l1 hp hP => ?_)
    obtain ⟨rfl, ⟨b2, rfl⟩ | ⟨b2, rfl⟩⟩ := hp
    · refine sx_if_ne X (by decide) (tgt := 32) dX4_tellEvent_27 (by decide) (fun _ => ?_) (fun h => absurd h (by decide))
      refine lv_aload_n X.1.1 X.1.2.1 dX4_tellEvent_32 rfl (lv_at hl 3 rfl) ?_
      refine lv_aload_n X.1.1 X.1.2.1 dX4_tellEvent_33 rfl (lv_at hl 1 rfl) ?_
      refine sx_get X hP in_X4_tellEvent_X4 h84 (by decide) rfl 6 (by decide) lk_X4_tellEvent_fieldLink_RX4_39_RaceWatch_Telling_threadAtIt_I rfl dX4_tellEvent_34 ?_
      refine lv_aload_n X.1.1 X.1.2.1 dX4_tellEvent_37 rfl (lv_at hl 1 rfl) ?_
      refine sx_get X hP in_X4_tellEvent_X4 h84 (by decide) rfl 5 (by decide) lk_X4_tellEvent_fieldLink_RX4_52_RaceWatch_Telling_item_I rfl dX4_tellEvent_38 ?_
      refine lv_iload_n X.1.1 X.1.2.1 dX4_tellEvent_41 rfl (lv_at hl 2 rfl) ?_
      refine sx_cvI (As := [.int (nI (who)), .int (nI (it)), .int (nI (x))]) (rest := []) X (mX5_canBe l (t := who) (s := it) (x := x) hwho hit hx h1 h2 h3) gX4_tellEvent_X5_canBe rfl yv_X5_canBe ⟨Nat.le_of_ble_eq_true rfl, Nat.le_of_ble_eq_true rfl⟩ h1 (by decide) rfl rfl hl.1 rfl (Nat.le_of_ble_eq_true rfl) dX4_tellEvent_42 ⟨Nat.le_of_ble_eq_true rfl, Nat.le_of_ble_eq_true rfl⟩ hs rfl hP (fun r3 F3 H3 l3 hp hP => ?_)
      obtain ⟨rfl, ⟨b4, rfl⟩ | ⟨b4, rfl⟩⟩ := hp
      · refine sx_if_eq X (by decide) (tgt := 63) dX4_tellEvent_45 (by decide) (fun h => absurd h (by decide)) (fun _ => ?_)
        refine lv_aload_n X.1.1 X.1.2.1 dX4_tellEvent_48 rfl (lv_at hl 3 rfl) ?_
        refine lv_aload_n X.1.1 X.1.2.1 dX4_tellEvent_49 rfl (lv_at hl 1 rfl) ?_
        refine sx_get X hP in_X4_tellEvent_X4 h84 (by decide) rfl 6 (by decide) lk_X4_tellEvent_fieldLink_RX4_39_RaceWatch_Telling_threadAtIt_I rfl dX4_tellEvent_50 ?_
        refine lv_aload_n X.1.1 X.1.2.1 dX4_tellEvent_53 rfl (lv_at hl 1 rfl) ?_
        refine sx_get X hP in_X4_tellEvent_X4 h84 (by decide) rfl 5 (by decide) lk_X4_tellEvent_fieldLink_RX4_52_RaceWatch_Telling_item_I rfl dX4_tellEvent_54 ?_
        refine sx_cvI (As := [.int (nI (who)), .int (nI (it))]) (rest := []) X (mX5_stepIsMuch l (t := who) (s := it) hwho hit h1 h4 h5) gX4_tellEvent_X5_stepIsMuch rfl yv_X5_stepIsMuch ⟨Nat.le_of_ble_eq_true rfl, Nat.le_of_ble_eq_true rfl⟩ h1 (by decide) rfl rfl hl.1 rfl (Nat.le_of_ble_eq_true rfl) dX4_tellEvent_57 ⟨Nat.le_of_ble_eq_true rfl, Nat.le_of_ble_eq_true rfl⟩ hs rfl hP (fun r5 F5 H5 l5 hp hP => ?_)
        obtain ⟨rfl, ⟨b6, rfl⟩ | ⟨b6, rfl⟩⟩ := hp
        · refine sx_if_eq X (by decide) (tgt := 65) dX4_tellEvent_60 (by decide) (fun h => absurd h (by decide)) (fun _ => ?_)
          refine lv_iconst (v := nI 4) X.1.1 X.1.2.1 dX4_tellEvent_63 (by decide) ?_
          rw [hQ]
          exact sx_iret X rfl hs rfl hP dX4_tellEvent_64 (Or.inr (Or.inl ⟨by omega, fun q => q.2.2 (hmu.mp b6), rfl, rfl⟩))
        · refine sx_if_eq X (by decide) (tgt := 65) dX4_tellEvent_60 (by decide) (fun _ => ?_) (fun h => absurd h (by decide))
          have hok2 : okT w who it x := ⟨(hcb.mp b4).1, (hcb.mp b4).2, fun q => b6 (hmu.mpr q)⟩
          refine lv_aload_n X.1.1 X.1.2.1 dX4_tellEvent_65 rfl (lv_at hl 3 rfl) ?_
          refine lv_aload_n X.1.1 X.1.2.1 dX4_tellEvent_66 rfl (lv_at hl 1 rfl) ?_
          refine sx_get X hP in_X4_tellEvent_X4 h84 (by decide) rfl 6 (by decide) lk_X4_tellEvent_fieldLink_RX4_39_RaceWatch_Telling_threadAtIt_I rfl dX4_tellEvent_67 ?_
          refine lv_aload_n X.1.1 X.1.2.1 dX4_tellEvent_70 rfl (lv_at hl 1 rfl) ?_
          refine sx_get X hP in_X4_tellEvent_X4 h84 (by decide) rfl 5 (by decide) lk_X4_tellEvent_fieldLink_RX4_52_RaceWatch_Telling_item_I rfl dX4_tellEvent_71 ?_
          refine lv_iload_n X.1.1 X.1.2.1 dX4_tellEvent_74 rfl (lv_at hl 2 rfl) ?_
          refine sx_cvI (As := [.int (nI (who)), .int (nI (it)), .int (nI (x))]) (rest := []) X (mX5_come l (w := w) (M := n) (t := who) (s := it) (x := x) hW hwf (by omega) hwho hit hx hok2.1) gX4_tellEvent_X5_come rfl yv_X5_come ⟨Nat.le_of_ble_eq_true rfl, Nat.le_of_ble_eq_true rfl⟩ h1 (by decide) rfl rfl hl.1 rfl (Nat.le_of_ble_eq_true rfl) dX4_tellEvent_75 ⟨Nat.le_of_ble_eq_true rfl, Nat.le_of_ble_eq_true rfl⟩ hs rfl hP (fun r7 F7 H7 l7 hp hP => ?_)
          obtain ⟨hW, o7, rfl⟩ := hp
          have h84 := (o7 84 (by decide)).trans h84
          have h85 := (o7 85 (by decide)).trans h85
          have h86 := (o7 86 (by decide)).trans h86
          have h87 := (o7 87 (by decide)).trans h87
          have h89 := (o7 89 (by decide)).trans h89
          have h90 := (o7 90 (by decide)).trans h90
          have hO : ∀ j, j = 0 ∨ (27 < j ∧ j < 84) ∨ j = 88 ∨ 90 < j → F7 j = F j := fun j hj => (o7 j (by omega)).trans (hO j hj)
          have h1 := WV.obj hW
          refine lv_pop X.1.1 X.1.2.1 dX4_tellEvent_78 rfl ?_
          refine lv_aload_n X.1.1 X.1.2.1 dX4_tellEvent_79 rfl (lv_at hl 1 rfl) ?_
          refine sx_get X hP in_X4_tellEvent_X4 h84 (by decide) rfl 5 (by decide) lk_X4_tellEvent_fieldLink_RX4_52_RaceWatch_Telling_item_I rfl dX4_tellEvent_80 ?_
          refine lv_iconst (v := nI 2) X.1.1 X.1.2.1 dX4_tellEvent_83 (by decide) ?_
          refine sx_icmp_eq X (by omega) (by decide) (tgt := 94) dX4_tellEvent_84 (by decide) (fun c84 => absurd c84 (by omega)) (fun c84 => ?_)
          refine lv_aload_n X.1.1 X.1.2.1 dX4_tellEvent_87 rfl (lv_at hl 1 rfl) ?_
          refine lv_iconst (v := nI 2) X.1.1 X.1.2.1 dX4_tellEvent_88 (by decide) ?_
          refine sx_put X hP in_X4_tellEvent_X4 tyX4 tyX4_ok nmX4 h84 (by decide) rfl 4 (by decide) lk_X4_tellEvent_fieldLink_RX4_36_RaceWatch_Telling_due_I rfl rfl rfl (Nat.le_of_ble_eq_true rfl) dX4_tellEvent_89 (fun F8 H8 l8 e8 o8 hP => ?_)
          have h84 : F8 (84) = ob 4 ([q0, q1, rf G 85, rf G 88, .int (nI 2), .int (nI (it)), .int (nI (who)), .int (nI (rgF ol d)), .int (nI (d)), rf G 89, rf G 90]) := e8
          have h85 := (o8 (85) (by decide)).trans h85
          have h86 := (o8 (86) (by decide)).trans h86
          have h87 := (o8 (87) (by decide)).trans h87
          have h89 := (o8 (89) (by decide)).trans h89
          have h90 := (o8 (90) (by decide)).trans h90
          have h1 := (o8 (1) (by decide)).trans h1
          have hO : ∀ j, j = 0 ∨ (27 < j ∧ j < 84) ∨ j = 88 ∨ 90 < j → F8 j = F j := fun j hj => (o8 j (by omega)).trans (hO j hj)
          have hW := WV.upd hW (fun j a b => o8 j (by omega))
          refine lv_iconst (v := nI 0) X.1.1 X.1.2.1 dX4_tellEvent_92 (by decide) ?_
          rw [hQ]
          exact sx_iret X rfl hs rfl hP dX4_tellEvent_93 (Or.inr (Or.inr ⟨by omega, hok2, rfl, hO, Or.inl ⟨c5, h84, hW, ⟨_, _, h85, h86, h87, hBk⟩, _, _, h89, h90, hag⟩⟩))
      · refine sx_if_eq X (by decide) (tgt := 63) dX4_tellEvent_45 (by decide) (fun _ => ?_) (fun h => absurd h (by decide))
        refine lv_iconst (v := nI 4) X.1.1 X.1.2.1 dX4_tellEvent_63 (by decide) ?_
        rw [hQ]
        exact sx_iret X rfl hs rfl hP dX4_tellEvent_64 (Or.inr (Or.inl ⟨by omega, fun q => b4 (hcb.mpr ⟨q.1, q.2.1⟩), rfl, rfl⟩))
    · refine sx_if_ne X (by decide) (tgt := 32) dX4_tellEvent_27 (by decide) (fun h => absurd h (by decide)) (fun _ => ?_)
      refine lv_iconst (v := nI 3) X.1.1 X.1.2.1 dX4_tellEvent_30 (by decide) ?_
      rw [hQ]
      exact sx_iret X rfl hs rfl hP dX4_tellEvent_31 (Or.inl ⟨by omega, rfl, rfl⟩)
  · have hm : moreF it = 2 := by rw [c5]; rfl
    refine lv_iconst (v := nI 2) X.1.1 X.1.2.1 dX4_tellEvent_8 (by decide) ?_
    refine lv_goto (tgt := 13) X.1.1 X.1.2.1 dX4_tellEvent_9 (by decide) ?_
    refine lv_istore_n (lv' := [(3, .int (nI 2)), (0, rf G 84), (1, .int (nI (x))), (2, rf G 1)]) X.1.1 X.1.2.1 dX4_tellEvent_13 rfl hl (by decide) rfl (fun ls hl => ?_)
    refine lv_aload_n X.1.1 X.1.2.1 dX4_tellEvent_14 rfl (lv_at hl 3 rfl) ?_
    refine sx_get X hP in_X4_tellEvent_X5 h1 (by decide) rfl 6 (by decide) lk_X4_tellEvent_fieldLink_RX4_85_RaceWatch_World_log_LRaceWatch_Log rfl dX4_tellEvent_15 ?_
    refine lv_iload_n X.1.1 X.1.2.1 dX4_tellEvent_18 rfl (lv_at hl 0 rfl) ?_
    refine lv_aload_n X.1.1 X.1.2.1 dX4_tellEvent_19 rfl (lv_at hl 1 rfl) ?_
    refine sx_get X hP in_X4_tellEvent_X4 h84 (by decide) rfl 7 (by decide) lk_X4_tellEvent_fieldLink_RX4_42_RaceWatch_Telling_openRegions_I rfl dX4_tellEvent_20 ?_
    refine sx_addN X (2 + rgF ol d) (by omega) dX4_tellEvent_23 ?_
    refine sx_cvI (As := [.int (nI (2 + rgF ol d))]) (rest := []) X (mX3_hasRoom l (M := n) (k := 2 + rgF ol d) (by omega) (by omega) h19) gX4_tellEvent_X3_hasRoom rfl yv_X3_hasRoom ⟨Nat.le_of_ble_eq_true rfl, Nat.le_of_ble_eq_true rfl⟩ h19 (by decide) rfl rfl hl.1 rfl (Nat.le_of_ble_eq_true rfl) dX4_tellEvent_24 ⟨Nat.le_of_ble_eq_true rfl, Nat.le_of_ble_eq_true rfl⟩ hs rfl hP (fun r9 F9 H9 l9 hp hP => ?_)
    obtain ⟨rfl, ⟨b10, rfl⟩ | ⟨b10, rfl⟩⟩ := hp
    · refine sx_if_ne X (by decide) (tgt := 32) dX4_tellEvent_27 (by decide) (fun _ => ?_) (fun h => absurd h (by decide))
      refine lv_aload_n X.1.1 X.1.2.1 dX4_tellEvent_32 rfl (lv_at hl 3 rfl) ?_
      refine lv_aload_n X.1.1 X.1.2.1 dX4_tellEvent_33 rfl (lv_at hl 1 rfl) ?_
      refine sx_get X hP in_X4_tellEvent_X4 h84 (by decide) rfl 6 (by decide) lk_X4_tellEvent_fieldLink_RX4_39_RaceWatch_Telling_threadAtIt_I rfl dX4_tellEvent_34 ?_
      refine lv_aload_n X.1.1 X.1.2.1 dX4_tellEvent_37 rfl (lv_at hl 1 rfl) ?_
      refine sx_get X hP in_X4_tellEvent_X4 h84 (by decide) rfl 5 (by decide) lk_X4_tellEvent_fieldLink_RX4_52_RaceWatch_Telling_item_I rfl dX4_tellEvent_38 ?_
      refine lv_iload_n X.1.1 X.1.2.1 dX4_tellEvent_41 rfl (lv_at hl 2 rfl) ?_
      refine sx_cvI (As := [.int (nI (who)), .int (nI (it)), .int (nI (x))]) (rest := []) X (mX5_canBe l (t := who) (s := it) (x := x) hwho hit hx h1 h2 h3) gX4_tellEvent_X5_canBe rfl yv_X5_canBe ⟨Nat.le_of_ble_eq_true rfl, Nat.le_of_ble_eq_true rfl⟩ h1 (by decide) rfl rfl hl.1 rfl (Nat.le_of_ble_eq_true rfl) dX4_tellEvent_42 ⟨Nat.le_of_ble_eq_true rfl, Nat.le_of_ble_eq_true rfl⟩ hs rfl hP (fun r11 F11 H11 l11 hp hP => ?_)
      obtain ⟨rfl, ⟨b12, rfl⟩ | ⟨b12, rfl⟩⟩ := hp
      · refine sx_if_eq X (by decide) (tgt := 63) dX4_tellEvent_45 (by decide) (fun h => absurd h (by decide)) (fun _ => ?_)
        refine lv_aload_n X.1.1 X.1.2.1 dX4_tellEvent_48 rfl (lv_at hl 3 rfl) ?_
        refine lv_aload_n X.1.1 X.1.2.1 dX4_tellEvent_49 rfl (lv_at hl 1 rfl) ?_
        refine sx_get X hP in_X4_tellEvent_X4 h84 (by decide) rfl 6 (by decide) lk_X4_tellEvent_fieldLink_RX4_39_RaceWatch_Telling_threadAtIt_I rfl dX4_tellEvent_50 ?_
        refine lv_aload_n X.1.1 X.1.2.1 dX4_tellEvent_53 rfl (lv_at hl 1 rfl) ?_
        refine sx_get X hP in_X4_tellEvent_X4 h84 (by decide) rfl 5 (by decide) lk_X4_tellEvent_fieldLink_RX4_52_RaceWatch_Telling_item_I rfl dX4_tellEvent_54 ?_
        refine sx_cvI (As := [.int (nI (who)), .int (nI (it))]) (rest := []) X (mX5_stepIsMuch l (t := who) (s := it) hwho hit h1 h4 h5) gX4_tellEvent_X5_stepIsMuch rfl yv_X5_stepIsMuch ⟨Nat.le_of_ble_eq_true rfl, Nat.le_of_ble_eq_true rfl⟩ h1 (by decide) rfl rfl hl.1 rfl (Nat.le_of_ble_eq_true rfl) dX4_tellEvent_57 ⟨Nat.le_of_ble_eq_true rfl, Nat.le_of_ble_eq_true rfl⟩ hs rfl hP (fun r13 F13 H13 l13 hp hP => ?_)
        obtain ⟨rfl, ⟨b14, rfl⟩ | ⟨b14, rfl⟩⟩ := hp
        · refine sx_if_eq X (by decide) (tgt := 65) dX4_tellEvent_60 (by decide) (fun h => absurd h (by decide)) (fun _ => ?_)
          refine lv_iconst (v := nI 4) X.1.1 X.1.2.1 dX4_tellEvent_63 (by decide) ?_
          rw [hQ]
          exact sx_iret X rfl hs rfl hP dX4_tellEvent_64 (Or.inr (Or.inl ⟨by omega, fun q => q.2.2 (hmu.mp b14), rfl, rfl⟩))
        · refine sx_if_eq X (by decide) (tgt := 65) dX4_tellEvent_60 (by decide) (fun _ => ?_) (fun h => absurd h (by decide))
          have hok2 : okT w who it x := ⟨(hcb.mp b12).1, (hcb.mp b12).2, fun q => b14 (hmu.mpr q)⟩
          refine lv_aload_n X.1.1 X.1.2.1 dX4_tellEvent_65 rfl (lv_at hl 3 rfl) ?_
          refine lv_aload_n X.1.1 X.1.2.1 dX4_tellEvent_66 rfl (lv_at hl 1 rfl) ?_
          refine sx_get X hP in_X4_tellEvent_X4 h84 (by decide) rfl 6 (by decide) lk_X4_tellEvent_fieldLink_RX4_39_RaceWatch_Telling_threadAtIt_I rfl dX4_tellEvent_67 ?_
          refine lv_aload_n X.1.1 X.1.2.1 dX4_tellEvent_70 rfl (lv_at hl 1 rfl) ?_
          refine sx_get X hP in_X4_tellEvent_X4 h84 (by decide) rfl 5 (by decide) lk_X4_tellEvent_fieldLink_RX4_52_RaceWatch_Telling_item_I rfl dX4_tellEvent_71 ?_
          refine lv_iload_n X.1.1 X.1.2.1 dX4_tellEvent_74 rfl (lv_at hl 2 rfl) ?_
          refine sx_cvI (As := [.int (nI (who)), .int (nI (it)), .int (nI (x))]) (rest := []) X (mX5_come l (w := w) (M := n) (t := who) (s := it) (x := x) hW hwf (by omega) hwho hit hx hok2.1) gX4_tellEvent_X5_come rfl yv_X5_come ⟨Nat.le_of_ble_eq_true rfl, Nat.le_of_ble_eq_true rfl⟩ h1 (by decide) rfl rfl hl.1 rfl (Nat.le_of_ble_eq_true rfl) dX4_tellEvent_75 ⟨Nat.le_of_ble_eq_true rfl, Nat.le_of_ble_eq_true rfl⟩ hs rfl hP (fun r15 F15 H15 l15 hp hP => ?_)
          obtain ⟨hW, o15, rfl⟩ := hp
          have h84 := (o15 84 (by decide)).trans h84
          have h85 := (o15 85 (by decide)).trans h85
          have h86 := (o15 86 (by decide)).trans h86
          have h87 := (o15 87 (by decide)).trans h87
          have h89 := (o15 89 (by decide)).trans h89
          have h90 := (o15 90 (by decide)).trans h90
          have hO : ∀ j, j = 0 ∨ (27 < j ∧ j < 84) ∨ j = 88 ∨ 90 < j → F15 j = F j := fun j hj => (o15 j (by omega)).trans (hO j hj)
          have h1 := WV.obj hW
          refine lv_pop X.1.1 X.1.2.1 dX4_tellEvent_78 rfl ?_
          refine lv_aload_n X.1.1 X.1.2.1 dX4_tellEvent_79 rfl (lv_at hl 1 rfl) ?_
          refine sx_get X hP in_X4_tellEvent_X4 h84 (by decide) rfl 5 (by decide) lk_X4_tellEvent_fieldLink_RX4_52_RaceWatch_Telling_item_I rfl dX4_tellEvent_80 ?_
          refine lv_iconst (v := nI 2) X.1.1 X.1.2.1 dX4_tellEvent_83 (by decide) ?_
          refine sx_icmp_eq X (by omega) (by decide) (tgt := 94) dX4_tellEvent_84 (by decide) (fun c84 => ?_) (fun c84 => absurd c84 (by omega))
          refine lv_aload_n X.1.1 X.1.2.1 dX4_tellEvent_94 rfl (lv_at hl 1 rfl) ?_
          refine lv_iload_n X.1.1 X.1.2.1 dX4_tellEvent_95 rfl (lv_at hl 2 rfl) ?_
          refine sx_cvV (As := [.int (nI (x))]) (rest := []) X (mX4_open l (d := d) (tw := (nI (who))) (a := (nI (x))) (by omega) h84 h89 h90) gX4_tellEvent_X4_open rfl yv_X4_open ⟨Nat.le_of_ble_eq_true rfl, Nat.le_of_ble_eq_true rfl⟩ h84 (by decide) rfl rfl hl.1 rfl (Nat.le_of_ble_eq_true rfl) dX4_tellEvent_96 ⟨Nat.le_of_ble_eq_true rfl, Nat.le_of_ble_eq_true rfl⟩ hs rfl hP (fun F16 H16 l16 hp hP => ?_)
          obtain ⟨e16, f16, g16, o16⟩ := hp
          have h84 : F16 (84) = ob 4 ([q0, q1, rf G 85, rf G 88, dv, .int (nI (it)), .int (nI (who)), .int (nI (rgF ol d)), .int (nI (1 + d)), rf G 89, rf G 90]) := e16
          have h85 := (o16 (85) (by decide)).trans h85
          have h86 := (o16 (86) (by decide)).trans h86
          have h87 := (o16 (87) (by decide)).trans h87
          have h89 : F16 (89) = rI G (240) (upd lw d (nI (x))) := f16
          have h90 : F16 (90) = rI G (240) (upd tb d (nI (who))) := g16
          have h1 := (o16 (1) (by decide)).trans h1
          have hO : ∀ j, j = 0 ∨ (27 < j ∧ j < 84) ∨ j = 88 ∨ 90 < j → F16 j = F j := fun j hj => (o16 j (by omega)).trans (hO j hj)
          have hW := WV.upd hW (fun j a b => o16 j (by omega))
          refine lv_aload_n X.1.1 X.1.2.1 dX4_tellEvent_99 rfl (lv_at hl 1 rfl) ?_
          refine lv_dup X.1.1 X.1.2.1 dX4_tellEvent_100 rfl ?_
          refine sx_get X hP in_X4_tellEvent_X4 h84 (by decide) rfl 7 (by decide) lk_X4_tellEvent_fieldLink_RX4_42_RaceWatch_Telling_openRegions_I rfl dX4_tellEvent_101 ?_
          refine lv_iconst (v := nI 1) X.1.1 X.1.2.1 dX4_tellEvent_104 (by decide) ?_
          refine sx_addN X (1 + rgF ol d) (by omega) dX4_tellEvent_105 ?_
          refine sx_put X hP in_X4_tellEvent_X4 tyX4 tyX4_ok nmX4 h84 (by decide) rfl 7 (by decide) lk_X4_tellEvent_fieldLink_RX4_42_RaceWatch_Telling_openRegions_I rfl rfl rfl (Nat.le_of_ble_eq_true rfl) dX4_tellEvent_106 (fun F17 H17 l17 e17 o17 hP => ?_)
          have h84 : F17 (84) = ob 4 ([q0, q1, rf G 85, rf G 88, dv, .int (nI (it)), .int (nI (who)), .int (nI (1 + rgF ol d)), .int (nI (1 + d)), rf G 89, rf G 90]) := e17
          have h85 := (o17 (85) (by decide)).trans h85
          have h86 := (o17 (86) (by decide)).trans h86
          have h87 := (o17 (87) (by decide)).trans h87
          have h89 := (o17 (89) (by decide)).trans h89
          have h90 := (o17 (90) (by decide)).trans h90
          have h1 := (o17 (1) (by decide)).trans h1
          have hO : ∀ j, j = 0 ∨ (27 < j ∧ j < 84) ∨ j = 88 ∨ 90 < j → F17 j = F j := fun j hj => (o17 j (by omega)).trans (hO j hj)
          have hW := WV.upd hW (fun j a b => o17 j (by omega))
          refine lv_aload_n X.1.1 X.1.2.1 dX4_tellEvent_109 rfl (lv_at hl 1 rfl) ?_
          refine sx_get X hP in_X4_tellEvent_X4 h84 (by decide) rfl 2 (by decide) lk_X4_tellEvent_fieldLink_RX4_18_RaceWatch_Telling_book_LRaceWatch_Book rfl dX4_tellEvent_110 ?_
          refine lv_iload_n X.1.1 X.1.2.1 dX4_tellEvent_113 rfl (lv_at hl 2 rfl) ?_
          refine lv_iconst (v := nI 1) X.1.1 X.1.2.1 dX4_tellEvent_114 (by decide) ?_
          refine sx_cvV (As := [.int (nI (x)), .int (nI 1)]) (rest := []) X (mX0_enter l (en := en) (a := (nI (x))) (b := (nI (1))) hen h85 h86 h87) gX4_tellEvent_X0_enter rfl yv_X0_enter ⟨Nat.le_of_ble_eq_true rfl, Nat.le_of_ble_eq_true rfl⟩ h85 (by decide) rfl rfl hl.1 rfl (Nat.le_of_ble_eq_true rfl) dX4_tellEvent_115 ⟨Nat.le_of_ble_eq_true rfl, Nat.le_of_ble_eq_true rfl⟩ hs rfl hP (fun F18 H18 l18 hp hP => ?_)
          obtain ⟨e18, f18, g18, o18⟩ := hp
          have h84 := (o18 (84) (by decide)).trans h84
          have h85 : F18 (85) = ob 0 ([.int (nI (jnE en)), rf G 86, rf G 87]) := e18
          have h86 : F18 (86) = rI G (24) (upd (va_cpy jl jl 0 1 23) 0 (nI (x))) := f18
          have h87 : F18 (87) = rI G (24) (upd (va_cpy jp jp 0 1 23) 0 (nI (1))) := g18
          have h89 := (o18 (89) (by decide)).trans h89
          have h90 := (o18 (90) (by decide)).trans h90
          have h1 := (o18 (1) (by decide)).trans h1
          have hO : ∀ j, j = 0 ∨ (27 < j ∧ j < 84) ∨ j = 88 ∨ 90 < j → F18 j = F j := fun j hj => (o18 j (by omega)).trans (hO j hj)
          have hW := WV.upd hW (fun j a b => o18 j (by omega))
          refine lv_aload_n X.1.1 X.1.2.1 dX4_tellEvent_118 rfl (lv_at hl 1 rfl) ?_
          refine lv_iconst (v := nI 3) X.1.1 X.1.2.1 dX4_tellEvent_119 (by decide) ?_
          refine sx_put X hP in_X4_tellEvent_X4 tyX4 tyX4_ok nmX4 h84 (by decide) rfl 4 (by decide) lk_X4_tellEvent_fieldLink_RX4_36_RaceWatch_Telling_due_I rfl rfl rfl (Nat.le_of_ble_eq_true rfl) dX4_tellEvent_120 (fun F19 H19 l19 e19 o19 hP => ?_)
          have h84 : F19 (84) = ob 4 ([q0, q1, rf G 85, rf G 88, .int (nI 3), .int (nI (it)), .int (nI (who)), .int (nI (1 + rgF ol d)), .int (nI (1 + d)), rf G 89, rf G 90]) := e19
          have h85 := (o19 (85) (by decide)).trans h85
          have h86 := (o19 (86) (by decide)).trans h86
          have h87 := (o19 (87) (by decide)).trans h87
          have h89 := (o19 (89) (by decide)).trans h89
          have h90 := (o19 (90) (by decide)).trans h90
          have h1 := (o19 (1) (by decide)).trans h1
          have hO : ∀ j, j = 0 ∨ (27 < j ∧ j < 84) ∨ j = 88 ∨ 90 < j → F19 j = F j := fun j hj => (o19 j (by omega)).trans (hO j hj)
          have hW := WV.upd hW (fun j a b => o19 j (by omega))
          refine lv_iconst (v := nI 0) X.1.1 X.1.2.1 dX4_tellEvent_123 (by decide) ?_
          have hxi : ¬ upd ol d (nI x) d = -1 := by rw [pk_us]; exact sx_m1 (by have := boundF_le it; omega)
          have hrg2 : rgF (upd ol d (nI x)) (1 + d) = 1 + rgF ol d := by rw [rgF_yes hxi, rgF_upd]
          have hx3 : x < 3 := by rw [c5] at hx; exact hx
          have hB2 := Bk_enter (b := 1) hBk hen hx3 (by decide)
          rw [show 2 * x + 1 = 1 + 2 * x by omega] at hB2
          rw [hQ]
          exact sx_iret X rfl hs rfl hP dX4_tellEvent_124 (Or.inr (Or.inr ⟨by omega, hok2, rfl, hO, Or.inr ⟨c5, h84.trans (by rw [hrg2]), hW, ⟨_, _, h85, h86, h87, hB2⟩, _, _, h89, h90, fun j hj => by by_cases e : j = d; (rw [e, pk_us, pk_us, pk_us, pk_us]; exact ⟨rfl, rfl⟩); (rw [pk_un e, pk_un e, pk_un e, pk_un e]; exact hag j (by omega))⟩⟩))
      · refine sx_if_eq X (by decide) (tgt := 63) dX4_tellEvent_45 (by decide) (fun _ => ?_) (fun h => absurd h (by decide))
        refine lv_iconst (v := nI 4) X.1.1 X.1.2.1 dX4_tellEvent_63 (by decide) ?_
        rw [hQ]
        exact sx_iret X rfl hs rfl hP dX4_tellEvent_64 (Or.inr (Or.inl ⟨by omega, fun q => b12 (hcb.mpr ⟨q.1, q.2.1⟩), rfl, rfl⟩))
    · refine sx_if_ne X (by decide) (tgt := 32) dX4_tellEvent_27 (by decide) (fun h => absurd h (by decide)) (fun _ => ?_)
      refine lv_iconst (v := nI 3) X.1.1 X.1.2.1 dX4_tellEvent_30 (by decide) ?_
      rw [hQ]
      exact sx_iret X rfl hs rfl hP dX4_tellEvent_31 (Or.inl ⟨by omega, rfl, rfl⟩)
