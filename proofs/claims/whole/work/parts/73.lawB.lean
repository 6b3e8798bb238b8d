set_option maxHeartbeats 800000 in
set_option maxRecDepth 100000 in
theorem law_0 {G : sx_G} {pp : Program} {l : Launch} {ee : Env} {ss : State} {mm : MethodId} {below : List Frame} {meth : Method} {kc : Code} {nm : String} {b K i : Nat} {xs : Nat → Int32} {Q : State → Prop} (X : sx_X G pp mm kc cL_law 4 ss #[Value.ref b] wsL_law RL meth (some .boolean) nm) (hs : ss.heap.size = sx_b G + 0) (hX : va_X b K xs ss ss.heap) (hbl : b < ss.heap.size) (hi : i + 4 ≤ K) (hK : K ≤ 2048) {F : Nat → va_E} {H : Heap} {lv : List Loc} {ls : Array Slot} (hI : LI G F) (hP : sx_H G 97 F ss.heap H lv) (hl : lv_has ls 4 [(0, .ref b), (1, rf G 0), (2, rf G 91), (3, .int (nI i))]) (kk : ∀ (F1 : Nat → va_E) (H1 : Heap) (l1 : List Loc), LI G F1 → sx_H G 97 F1 ss.heap H1 l1 → W pp l ee room_1 ss mm #[Value.ref b] below meth kc H1 l1 97 20000 Q (F0 mm 761 ls [])) : W pp l ee room_1 ss mm #[Value.ref b] below meth kc H lv 97 20000 Q (F0 mm 132 ls []) := by
  have hbA : ¬ sx_A G b := by show ¬ sx_b G ≤ b; omega
  obtain ⟨w, jo, ik, A, n, en, len, m, hJ⟩ := hI
  obtain ⟨h0, hW, ⟨im, h28, him⟩, hS0, hS1, hIm, h83, ⟨dv, iv, wv, rv, pv, h84⟩, ⟨jl, jp, h85, h86, h87, hBk⟩, ⟨lt, h88, hlt⟩, ⟨lw, tb, h89, h90⟩, ⟨xl, z5, z6, z7, z8, z9, z10, z11, h91⟩, h92, h93, h94, ⟨ol, ot, h95, h96⟩, hwf, hHO, hA, hen, hjo⟩ := id hJ
  refine lv_aload_n X.1.1 X.1.2.1 dL_law_132 rfl (lv_at hl 1 rfl) ?_
  refine sx_cvI (As := []) (rest := []) X (mX6_anew l hW hwf h0) gL_law_X6_anew rfl yv_X6_anew ⟨Nat.le_of_ble_eq_true rfl, Nat.le_of_ble_eq_true rfl⟩ h0 (by decide) rfl rfl hl.1 rfl (Nat.le_of_ble_eq_true rfl) dL_law_133 ⟨Nat.le_of_ble_eq_true rfl, Nat.le_of_ble_eq_true rfl⟩ hs rfl hP (fun r1 F1 H1 l1 hp hP => ?_)
  obtain ⟨hW1, o1, hr1⟩ := hp
  have h91 := (o1 91 (by omega)).trans h91
  have h92 := (o1 92 (by omega)).trans h92
  refine lv_aload_n X.1.1 X.1.2.1 dL_law_136 rfl (lv_at hl 2 rfl) ?_
  refine sx_cvI (As := []) (rest := [.int r1]) X (mX7_anew l h91 h92) gL_law_X7_anew rfl yv_X7_anew ⟨Nat.le_of_ble_eq_true rfl, Nat.le_of_ble_eq_true rfl⟩ h91 (by decide) rfl rfl hl.1 rfl (Nat.le_of_ble_eq_true rfl) dL_law_137 ⟨Nat.le_of_ble_eq_true rfl, Nat.le_of_ble_eq_true rfl⟩ hs rfl hP (fun r2 F2 H2 l2 hp hP => ?_)
  obtain ⟨e2, o2, hr2⟩ := hp
  refine lv_icmp_eq X.1.1 X.1.2.1 (tgt := 761) dL_law_140 (by decide) (fun _ => ?_) (fun q => absurd (hr1.symm.trans (hwf.1.symm.trans hr2)) q)
  exact kk _ _ _ (⟨iniF w, jo, ik, A, 0, en, len, m, hJ.world (fun j hj => (o2 j (by omega)).trans (o1 j (by omega))) ⟨xl, z5, z6, z7, z8, z9, z10, z11, (o2 91 (by omega)).trans h91⟩ (WV.upd hW1 (fun j a b => o2 j (by omega))) e2 (WF_ini) (HO_ini) (fun k hk => ini_far hk)⟩) hP
set_option maxHeartbeats 800000 in
set_option maxRecDepth 100000 in
theorem law_1 {G : sx_G} {pp : Program} {l : Launch} {ee : Env} {ss : State} {mm : MethodId} {below : List Frame} {meth : Method} {kc : Code} {nm : String} {b K i : Nat} {xs : Nat → Int32} {Q : State → Prop} (X : sx_X G pp mm kc cL_law 4 ss #[Value.ref b] wsL_law RL meth (some .boolean) nm) (hs : ss.heap.size = sx_b G + 0) (hX : va_X b K xs ss ss.heap) (hbl : b < ss.heap.size) (hi : i + 4 ≤ K) (hK : K ≤ 2048) {F : Nat → va_E} {H : Heap} {lv : List Loc} {ls : Array Slot} (hI : LI G F) (hP : sx_H G 97 F ss.heap H lv) (hl : lv_has ls 4 [(0, .ref b), (1, rf G 0), (2, rf G 91), (3, .int (nI i))]) (kk : ∀ (F1 : Nat → va_E) (H1 : Heap) (l1 : List Loc), LI G F1 → sx_H G 97 F1 ss.heap H1 l1 → W pp l ee room_1 ss mm #[Value.ref b] below meth kc H1 l1 97 20000 Q (F0 mm 761 ls [])) : W pp l ee room_1 ss mm #[Value.ref b] below meth kc H lv 97 20000 Q (F0 mm 145 ls []) := by
  have hbA : ¬ sx_A G b := by show ¬ sx_b G ≤ b; omega
  obtain ⟨w, jo, ik, A, n, en, len, m, hJ⟩ := hI
  obtain ⟨h0, hW, ⟨im, h28, him⟩, hS0, hS1, hIm, h83, ⟨dv, iv, wv, rv, pv, h84⟩, ⟨jl, jp, h85, h86, h87, hBk⟩, ⟨lt, h88, hlt⟩, ⟨lw, tb, h89, h90⟩, ⟨xl, z5, z6, z7, z8, z9, z10, z11, h91⟩, h92, h93, h94, ⟨ol, ot, h95, h96⟩, hwf, hHO, hA, hen, hjo⟩ := id hJ
  refine lv_aload_n X.1.1 X.1.2.1 dL_law_145 rfl (lv_at hl 1 rfl) ?_
  refine lv_aload_n X.1.1 X.1.2.1 dL_law_146 rfl (lv_at hl 0 rfl) ?_
  refine lv_iload_n X.1.1 X.1.2.1 dL_law_147 rfl (lv_at hl 3 rfl) ?_
  refine lv_iconst (v := nI 1) X.1.1 X.1.2.1 dL_law_148 (by decide) ?_
  refine sx_addN X (1 + i) (by omega) dL_law_149 ?_
  refine sx_sld X hX hbl hbA hP.2 (1 + i) (by omega) (by omega) dL_law_150 ?_
  refine sx_cvI (As := [.int (xs (1 + i))]) (rest := []) X (mX6_feed l hA.2.1 h0 h84 h88) gL_law_X6_feed rfl yv_X6_feed ⟨Nat.le_of_ble_eq_true rfl, Nat.le_of_ble_eq_true rfl⟩ h0 (by decide) rfl rfl hl.1 rfl (Nat.le_of_ble_eq_true rfl) dL_law_151 ⟨Nat.le_of_ble_eq_true rfl, Nat.le_of_ble_eq_true rfl⟩ hs rfl hP (fun r1 F1 H1 l1 hp hP => ?_)
  obtain ⟨g1, hF, hr1⟩ | ⟨a, ha, ex, ⟨hlen, hF, hr1⟩ | ⟨hlen, e84, e88, o1, hr1⟩⟩ := hp
  · have hF := hF.symm
    subst hF
    refine lv_aload_n X.1.1 X.1.2.1 dL_law_154 rfl (lv_at hl 2 rfl) ?_
    refine lv_aload_n X.1.1 X.1.2.1 dL_law_155 rfl (lv_at hl 0 rfl) ?_
    refine lv_iload_n X.1.1 X.1.2.1 dL_law_156 rfl (lv_at hl 3 rfl) ?_
    refine lv_iconst (v := nI 1) X.1.1 X.1.2.1 dL_law_157 (by decide) ?_
    refine sx_addN X (1 + i) (by omega) dL_law_158 ?_
    refine sx_sld X hX hbl hbA hP.2 (1 + i) (by omega) (by omega) dL_law_159 ?_
    refine sx_cvI (As := [.int (xs (1 + i))]) (rest := [.int r1]) X (mX7_feed l (m := len) hA.2.1 hA.1 h91 h92) gL_law_X7_feed rfl yv_X7_feed ⟨Nat.le_of_ble_eq_true rfl, Nat.le_of_ble_eq_true rfl⟩ h91 (by decide) rfl rfl hl.1 rfl (Nat.le_of_ble_eq_true rfl) dL_law_160 ⟨Nat.le_of_ble_eq_true rfl, Nat.le_of_ble_eq_true rfl⟩ hs rfl hP (fun r2 F2 H2 l2 hp hP => ?_)
    obtain ⟨e2, o2, hr2⟩ := hp
    have hev : feedF w len (xs (1 + i)) = (-1000000002, w) := by unfold feedF; rw [cif_t g1]
    rw [hev] at e2 hr2
    have hFF := same92 o2 (e2.trans h92.symm)
    refine lv_icmp_eq X.1.1 X.1.2.1 (tgt := 761) dL_law_163 (by decide) (fun _ => ?_) (fun q => absurd (hr1.symm.trans hr2) q)
    exact kk _ _ _ (by rw [hFF]; exact ⟨w, jo, ik, A, n, en, len, m, hJ⟩) hP
  · have hF := hF.symm
    subst hF
    refine lv_aload_n X.1.1 X.1.2.1 dL_law_154 rfl (lv_at hl 2 rfl) ?_
    refine lv_aload_n X.1.1 X.1.2.1 dL_law_155 rfl (lv_at hl 0 rfl) ?_
    refine lv_iload_n X.1.1 X.1.2.1 dL_law_156 rfl (lv_at hl 3 rfl) ?_
    refine lv_iconst (v := nI 1) X.1.1 X.1.2.1 dL_law_157 (by decide) ?_
    refine sx_addN X (1 + i) (by omega) dL_law_158 ?_
    refine sx_sld X hX hbl hbA hP.2 (1 + i) (by omega) (by omega) dL_law_159 ?_
    refine sx_cvI (As := [.int (xs (1 + i))]) (rest := [.int r1]) X (mX7_feed l (m := len) hA.2.1 hA.1 h91 h92) gL_law_X7_feed rfl yv_X7_feed ⟨Nat.le_of_ble_eq_true rfl, Nat.le_of_ble_eq_true rfl⟩ h91 (by decide) rfl rfl hl.1 rfl (Nat.le_of_ble_eq_true rfl) dL_law_160 ⟨Nat.le_of_ble_eq_true rfl, Nat.le_of_ble_eq_true rfl⟩ hs rfl hP (fun r2 F2 H2 l2 hp hP => ?_)
    obtain ⟨e2, o2, hr2⟩ := hp
    have hev : feedF w len (xs (1 + i)) = (-1000000004, w) := by unfold feedF; rw [cif_f (fun q => q ⟨a, ha, ex⟩), cif_t hlen]
    rw [hev] at e2 hr2
    have hFF := same92 o2 (e2.trans h92.symm)
    refine lv_icmp_eq X.1.1 X.1.2.1 (tgt := 761) dL_law_163 (by decide) (fun _ => ?_) (fun q => absurd (hr1.symm.trans hr2) q)
    exact kk _ _ _ (by rw [hFF]; exact ⟨w, jo, ik, A, n, en, len, m, hJ⟩) hP
  · have h91 := (o1 91 (by omega)).trans h91
    have h92 := (o1 92 (by omega)).trans h92
    refine lv_aload_n X.1.1 X.1.2.1 dL_law_154 rfl (lv_at hl 2 rfl) ?_
    refine lv_aload_n X.1.1 X.1.2.1 dL_law_155 rfl (lv_at hl 0 rfl) ?_
    refine lv_iload_n X.1.1 X.1.2.1 dL_law_156 rfl (lv_at hl 3 rfl) ?_
    refine lv_iconst (v := nI 1) X.1.1 X.1.2.1 dL_law_157 (by decide) ?_
    refine sx_addN X (1 + i) (by omega) dL_law_158 ?_
    refine sx_sld X hX hbl hbA hP.2 (1 + i) (by omega) (by omega) dL_law_159 ?_
    refine sx_cvI (As := [.int (xs (1 + i))]) (rest := [.int r1]) X (mX7_feed l (m := len) hA.2.1 hA.1 h91 h92) gL_law_X7_feed rfl yv_X7_feed ⟨Nat.le_of_ble_eq_true rfl, Nat.le_of_ble_eq_true rfl⟩ h91 (by decide) rfl rfl hl.1 rfl (Nat.le_of_ble_eq_true rfl) dL_law_160 ⟨Nat.le_of_ble_eq_true rfl, Nat.le_of_ble_eq_true rfl⟩ hs rfl hP (fun r2 F2 H2 l2 hp hP => ?_)
    obtain ⟨e2, o2, hr2⟩ := hp
    have hev : feedF w len (xs (1 + i)) = (nI (1 + len), upd (upd w (1373 + len) (nI a)) 1372 (nI (1 + len))) := by unfold feedF; rw [cif_f (fun q => q ⟨a, ha, ex⟩), cif_f (by omega), ex]
    rw [hev] at e2 hr2
    refine lv_icmp_eq X.1.1 X.1.2.1 (tgt := 761) dL_law_163 (by decide) (fun _ => ?_) (fun q => absurd (hr1.symm.trans hr2) q)
    exact kk _ _ _ (⟨_, jo, ik, _, n, en, 1 + len, m, LJ.feed hJ ha hlen hlt ((o2 84 (by omega)).trans e84) ((o2 88 (by omega)).trans e88) e2 (fun j hj => (o2 j (by omega)).trans (o1 j (by omega)))⟩) hP
set_option maxHeartbeats 800000 in
set_option maxRecDepth 100000 in
theorem law_2 {G : sx_G} {pp : Program} {l : Launch} {ee : Env} {ss : State} {mm : MethodId} {below : List Frame} {meth : Method} {kc : Code} {nm : String} {b K i : Nat} {xs : Nat → Int32} {Q : State → Prop} (X : sx_X G pp mm kc cL_law 4 ss #[Value.ref b] wsL_law RL meth (some .boolean) nm) (hs : ss.heap.size = sx_b G + 0) (hX : va_X b K xs ss ss.heap) (hbl : b < ss.heap.size) (hi : i + 4 ≤ K) (hK : K ≤ 2048) {F : Nat → va_E} {H : Heap} {lv : List Loc} {ls : Array Slot} (hI : LI G F) (hP : sx_H G 97 F ss.heap H lv) (hl : lv_has ls 4 [(0, .ref b), (1, rf G 0), (2, rf G 91), (3, .int (nI i))]) (kk : ∀ (F1 : Nat → va_E) (H1 : Heap) (l1 : List Loc), LI G F1 → sx_H G 97 F1 ss.heap H1 l1 → W pp l ee room_1 ss mm #[Value.ref b] below meth kc H1 l1 97 20000 Q (F0 mm 761 ls [])) : W pp l ee room_1 ss mm #[Value.ref b] below meth kc H lv 97 20000 Q (F0 mm 168 ls []) := by
  have hbA : ¬ sx_A G b := by show ¬ sx_b G ≤ b; omega
  obtain ⟨w, jo, ik, A, n, en, len, m, hJ⟩ := hI
  obtain ⟨h0, hW, ⟨im, h28, him⟩, hS0, hS1, hIm, h83, ⟨dv, iv, wv, rv, pv, h84⟩, ⟨jl, jp, h85, h86, h87, hBk⟩, ⟨lt, h88, hlt⟩, ⟨lw, tb, h89, h90⟩, ⟨xl, z5, z6, z7, z8, z9, z10, z11, h91⟩, h92, h93, h94, ⟨ol, ot, h95, h96⟩, hwf, hHO, hA, hen, hjo⟩ := id hJ
  refine lv_aload_n X.1.1 X.1.2.1 dL_law_168 rfl (lv_at hl 1 rfl) ?_
  refine sx_cvI (As := []) (rest := []) X (mX6_run l (A := A) (len := len) (ol := ol) (ot := ot) hW hwf hA hlt hen hjo hBk hHO h0 h84 h85 h86 h87 h88 h89 h90) gL_law_X6_run rfl yv_X6_run ⟨Nat.le_of_ble_eq_true rfl, Nat.le_of_ble_eq_true rfl⟩ h0 (by decide) rfl rfl hl.1 rfl (Nat.le_of_ble_eq_true rfl) dL_law_169 ⟨Nat.le_of_ble_eq_true rfl, Nat.le_of_ble_eq_true rfl⟩ hs rfl hP (fun r1 F1 H1 l1 hp hP => ?_)
  obtain ⟨f, pos, Tf, hgo, ⟨dv2, iv2, wv2, i2, hT2, hi2, hIT2⟩, ⟨hHO2, hfar2⟩, hr1, o1⟩ := hp
  have h91 := (o1 91 (by omega)).trans h91
  have h92 := (o1 92 (by omega)).trans h92
  have h94 := (o1 94 (by omega)).trans h94
  have h95 := (o1 95 (by omega)).trans h95
  have h96 := (o1 96 (by omega)).trans h96
  refine lv_aload_n X.1.1 X.1.2.1 dL_law_172 rfl (lv_at hl 2 rfl) ?_
  refine sx_cvI (As := []) (rest := [.int r1]) X (mX7_run l (A := A) (len := len) (ol := ol) (ot := ot) hwf hA hen hjo h91 h92 h94 h95 h96) gL_law_X7_run rfl yv_X7_run ⟨Nat.le_of_ble_eq_true rfl, Nat.le_of_ble_eq_true rfl⟩ h91 (by decide) rfl rfl hl.1 rfl (Nat.le_of_ble_eq_true rfl) dL_law_173 ⟨Nat.le_of_ble_eq_true rfl, Nat.le_of_ble_eq_true rfl⟩ hs rfl hP (fun r2 F2 H2 l2 hp hP => ?_)
  obtain ⟨f2, pos2, Tf2, hgo2, ⟨e92, e94, ⟨y5, y6, y7, y8, y9, y10, y11, e91⟩, ⟨u1, e95⟩, ⟨u2, e96⟩, hr2⟩, o2⟩ := hp
  obtain ⟨rfl, hq⟩ := Prod.mk.inj (hgo.symm.trans hgo2)
  obtain ⟨rfl, rfl⟩ := Prod.mk.inj hq
  generalize shA Tf.2.2.2.2.2.2.2.1 Tf = S2 at hT2 hIT2 hHO2 hfar2 e92 e94 e91 hr1 hr2
  obtain ⟨w2, n2, en2, jo2, due2, it2, who2, d2, ol2, ot2⟩ := S2
  refine lv_icmp_eq X.1.1 X.1.2.1 (tgt := 761) dL_law_176 (by decide) (fun _ => ?_) (fun q => absurd (hr1.symm.trans hr2) q)
  exact kk _ _ _ (⟨_, _, ik, _, n2, en2, 0, m, LJ.run hJ hT2 hIT2 hHO2 hfar2 o1 e92 e94 ⟨xl, y5, y6, y7, y8, y9, y10, y11, e91⟩ ⟨u1, u2, e95, e96⟩ o2⟩) hP
set_option maxHeartbeats 800000 in
set_option maxRecDepth 100000 in
theorem law_3 {G : sx_G} {pp : Program} {l : Launch} {ee : Env} {ss : State} {mm : MethodId} {below : List Frame} {meth : Method} {kc : Code} {nm : String} {b K i : Nat} {xs : Nat → Int32} {Q : State → Prop} (X : sx_X G pp mm kc cL_law 4 ss #[Value.ref b] wsL_law RL meth (some .boolean) nm) (hs : ss.heap.size = sx_b G + 0) (hX : va_X b K xs ss ss.heap) (hbl : b < ss.heap.size) (hi : i + 4 ≤ K) (hK : K ≤ 2048) {F : Nat → va_E} {H : Heap} {lv : List Loc} {ls : Array Slot} (hI : LI G F) (hP : sx_H G 97 F ss.heap H lv) (hl : lv_has ls 4 [(0, .ref b), (1, rf G 0), (2, rf G 91), (3, .int (nI i))]) (kk : ∀ (F1 : Nat → va_E) (H1 : Heap) (l1 : List Loc), LI G F1 → sx_H G 97 F1 ss.heap H1 l1 → W pp l ee room_1 ss mm #[Value.ref b] below meth kc H1 l1 97 20000 Q (F0 mm 761 ls [])) : W pp l ee room_1 ss mm #[Value.ref b] below meth kc H lv 97 20000 Q (F0 mm 181 ls []) := by
  have hbA : ¬ sx_A G b := by show ¬ sx_b G ≤ b; omega
  obtain ⟨w, jo, ik, A, n, en, len, m, hJ⟩ := hI
  obtain ⟨h0, hW, ⟨im, h28, him⟩, hS0, hS1, hIm, h83, ⟨dv, iv, wv, rv, pv, h84⟩, ⟨jl, jp, h85, h86, h87, hBk⟩, ⟨lt, h88, hlt⟩, ⟨lw, tb, h89, h90⟩, ⟨xl, z5, z6, z7, z8, z9, z10, z11, h91⟩, h92, h93, h94, ⟨ol, ot, h95, h96⟩, hwf, hHO, hA, hen, hjo⟩ := id hJ
  refine lv_aload_n X.1.1 X.1.2.1 dL_law_181 rfl (lv_at hl 1 rfl) ?_
  refine sx_cvI (As := []) (rest := []) X (mX6_fault l h0 h84) gL_law_X6_fault rfl yv_X6_fault ⟨Nat.le_of_ble_eq_true rfl, Nat.le_of_ble_eq_true rfl⟩ h0 (by decide) rfl rfl hl.1 rfl (Nat.le_of_ble_eq_true rfl) dL_law_182 ⟨Nat.le_of_ble_eq_true rfl, Nat.le_of_ble_eq_true rfl⟩ hs rfl hP (fun r1 F1 H1 l1 hp hP => ?_)
  obtain ⟨rfl, hr1⟩ := hp
  refine lv_aload_n X.1.1 X.1.2.1 dL_law_185 rfl (lv_at hl 2 rfl) ?_
  refine sx_cvI (As := []) (rest := [.int r1]) X (mX7_fault l h91 h92) gL_law_X7_fault rfl yv_X7_fault ⟨Nat.le_of_ble_eq_true rfl, Nat.le_of_ble_eq_true rfl⟩ h91 (by decide) rfl rfl hl.1 rfl (Nat.le_of_ble_eq_true rfl) dL_law_186 ⟨Nat.le_of_ble_eq_true rfl, Nat.le_of_ble_eq_true rfl⟩ hs rfl hP (fun r2 F2 H2 l2 hp hP => ?_)
  obtain ⟨rfl, hr2⟩ := hp
  refine lv_icmp_eq X.1.1 X.1.2.1 (tgt := 761) dL_law_189 (by decide) (fun _ => ?_) (fun q => absurd (hr1.symm.trans hr2) q)
  exact kk _ _ _ (⟨w, jo, ik, A, n, en, len, m, hJ⟩) hP
set_option maxHeartbeats 800000 in
set_option maxRecDepth 100000 in
theorem law_4 {G : sx_G} {pp : Program} {l : Launch} {ee : Env} {ss : State} {mm : MethodId} {below : List Frame} {meth : Method} {kc : Code} {nm : String} {b K i : Nat} {xs : Nat → Int32} {Q : State → Prop} (X : sx_X G pp mm kc cL_law 4 ss #[Value.ref b] wsL_law RL meth (some .boolean) nm) (hs : ss.heap.size = sx_b G + 0) (hX : va_X b K xs ss ss.heap) (hbl : b < ss.heap.size) (hi : i + 4 ≤ K) (hK : K ≤ 2048) {F : Nat → va_E} {H : Heap} {lv : List Loc} {ls : Array Slot} (hI : LI G F) (hP : sx_H G 97 F ss.heap H lv) (hl : lv_has ls 4 [(0, .ref b), (1, rf G 0), (2, rf G 91), (3, .int (nI i))]) (kk : ∀ (F1 : Nat → va_E) (H1 : Heap) (l1 : List Loc), LI G F1 → sx_H G 97 F1 ss.heap H1 l1 → W pp l ee room_1 ss mm #[Value.ref b] below meth kc H1 l1 97 20000 Q (F0 mm 761 ls [])) : W pp l ee room_1 ss mm #[Value.ref b] below meth kc H lv 97 20000 Q (F0 mm 194 ls []) := by
  have hbA : ¬ sx_A G b := by show ¬ sx_b G ≤ b; omega
  obtain ⟨w, jo, ik, A, n, en, len, m, hJ⟩ := hI
  obtain ⟨h0, hW, ⟨im, h28, him⟩, hS0, hS1, hIm, h83, ⟨dv, iv, wv, rv, pv, h84⟩, ⟨jl, jp, h85, h86, h87, hBk⟩, ⟨lt, h88, hlt⟩, ⟨lw, tb, h89, h90⟩, ⟨xl, z5, z6, z7, z8, z9, z10, z11, h91⟩, h92, h93, h94, ⟨ol, ot, h95, h96⟩, hwf, hHO, hA, hen, hjo⟩ := id hJ
  have h1 := WV.obj hW
  refine lv_aload_n X.1.1 X.1.2.1 dL_law_194 rfl (lv_at hl 1 rfl) ?_
  refine lv_aload_n X.1.1 X.1.2.1 dL_law_195 rfl (lv_at hl 0 rfl) ?_
  refine lv_iload_n X.1.1 X.1.2.1 dL_law_196 rfl (lv_at hl 3 rfl) ?_
  refine lv_iconst (v := nI 1) X.1.1 X.1.2.1 dL_law_197 (by decide) ?_
  refine sx_addN X (1 + i) (by omega) dL_law_198 ?_
  refine sx_sld X hX hbl hbA hP.2 (1 + i) (by omega) (by omega) dL_law_199 ?_
  refine lv_aload_n X.1.1 X.1.2.1 dL_law_200 rfl (lv_at hl 0 rfl) ?_
  refine lv_iload_n X.1.1 X.1.2.1 dL_law_201 rfl (lv_at hl 3 rfl) ?_
  refine lv_iconst (v := nI 2) X.1.1 X.1.2.1 dL_law_202 (by decide) ?_
  refine sx_addN X (2 + i) (by omega) dL_law_203 ?_
  refine sx_sld X hX hbl hbA hP.2 (2 + i) (by omega) (by omega) dL_law_204 ?_
  refine lv_aload_n X.1.1 X.1.2.1 dL_law_205 rfl (lv_at hl 0 rfl) ?_
  refine lv_iload_n X.1.1 X.1.2.1 dL_law_206 rfl (lv_at hl 3 rfl) ?_
  refine lv_iconst (v := nI 3) X.1.1 X.1.2.1 dL_law_207 (by decide) ?_
  refine sx_addN X (3 + i) (by omega) dL_law_208 ?_
  refine sx_sld X hX hbl hbA hP.2 (3 + i) (by omega) (by omega) dL_law_209 ?_
  refine sx_cvI (As := [.int (xs (1 + i)), .int (xs (2 + i)), .int (xs (3 + i))]) (rest := []) X (mX6_event l hW hwf h0 h1) gL_law_X6_event rfl yv_X6_event ⟨Nat.le_of_ble_eq_true rfl, Nat.le_of_ble_eq_true rfl⟩ h0 (by decide) rfl rfl hl.1 rfl (Nat.le_of_ble_eq_true rfl) dL_law_210 ⟨Nat.le_of_ble_eq_true rfl, Nat.le_of_ble_eq_true rfl⟩ hs rfl hP (fun r1 F1 H1 l1 hp hP => ?_)
  obtain ⟨hF, hev⟩ | ⟨t, s, x, ht, hs8, hx, hxt, hn1, hev, hr1, hW1, o1⟩ := hp
  · have hF := hF.symm
    subst hF
    refine lv_aload_n X.1.1 X.1.2.1 dL_law_213 rfl (lv_at hl 2 rfl) ?_
    refine lv_aload_n X.1.1 X.1.2.1 dL_law_214 rfl (lv_at hl 0 rfl) ?_
    refine lv_iload_n X.1.1 X.1.2.1 dL_law_215 rfl (lv_at hl 3 rfl) ?_
    refine lv_iconst (v := nI 1) X.1.1 X.1.2.1 dL_law_216 (by decide) ?_
    refine sx_addN X (1 + i) (by omega) dL_law_217 ?_
    refine sx_sld X hX hbl hbA hP.2 (1 + i) (by omega) (by omega) dL_law_218 ?_
    refine lv_aload_n X.1.1 X.1.2.1 dL_law_219 rfl (lv_at hl 0 rfl) ?_
    refine lv_iload_n X.1.1 X.1.2.1 dL_law_220 rfl (lv_at hl 3 rfl) ?_
    refine lv_iconst (v := nI 2) X.1.1 X.1.2.1 dL_law_221 (by decide) ?_
    refine sx_addN X (2 + i) (by omega) dL_law_222 ?_
    refine sx_sld X hX hbl hbA hP.2 (2 + i) (by omega) (by omega) dL_law_223 ?_
    refine lv_aload_n X.1.1 X.1.2.1 dL_law_224 rfl (lv_at hl 0 rfl) ?_
    refine lv_iload_n X.1.1 X.1.2.1 dL_law_225 rfl (lv_at hl 3 rfl) ?_
    refine lv_iconst (v := nI 3) X.1.1 X.1.2.1 dL_law_226 (by decide) ?_
    refine sx_addN X (3 + i) (by omega) dL_law_227 ?_
    refine sx_sld X hX hbl hbA hP.2 (3 + i) (by omega) (by omega) dL_law_228 ?_
    refine sx_cvI (As := [.int (xs (1 + i)), .int (xs (2 + i)), .int (xs (3 + i))]) (rest := [.int r1]) X (mX7_event l (n := n) hwf.2.1 hwf.1 hwf.2.2.2.1 h91 h92) gL_law_X7_event rfl yv_X7_event ⟨Nat.le_of_ble_eq_true rfl, Nat.le_of_ble_eq_true rfl⟩ h91 (by decide) rfl rfl hl.1 rfl (Nat.le_of_ble_eq_true rfl) dL_law_229 ⟨Nat.le_of_ble_eq_true rfl, Nat.le_of_ble_eq_true rfl⟩ hs rfl hP (fun r2 F2 H2 l2 hp hP => ?_)
    obtain ⟨e2, o2, hr2⟩ := hp
    rw [hev] at e2 hr2
    have hFF := same92 o2 (e2.trans h92.symm)
    refine lv_icmp_eq X.1.1 X.1.2.1 (tgt := 761) dL_law_232 (by decide) (fun _ => ?_) (fun q => absurd (hr2) q)
    exact kk _ _ _ (by rw [hFF]; exact ⟨w, jo, ik, A, n, en, len, m, hJ⟩) hP
  · have h91 := (o1 91 (by omega)).trans h91
    have h92 := (o1 92 (by omega)).trans h92
    refine lv_aload_n X.1.1 X.1.2.1 dL_law_213 rfl (lv_at hl 2 rfl) ?_
    refine lv_aload_n X.1.1 X.1.2.1 dL_law_214 rfl (lv_at hl 0 rfl) ?_
    refine lv_iload_n X.1.1 X.1.2.1 dL_law_215 rfl (lv_at hl 3 rfl) ?_
    refine lv_iconst (v := nI 1) X.1.1 X.1.2.1 dL_law_216 (by decide) ?_
    refine sx_addN X (1 + i) (by omega) dL_law_217 ?_
    refine sx_sld X hX hbl hbA hP.2 (1 + i) (by omega) (by omega) dL_law_218 ?_
    refine lv_aload_n X.1.1 X.1.2.1 dL_law_219 rfl (lv_at hl 0 rfl) ?_
    refine lv_iload_n X.1.1 X.1.2.1 dL_law_220 rfl (lv_at hl 3 rfl) ?_
    refine lv_iconst (v := nI 2) X.1.1 X.1.2.1 dL_law_221 (by decide) ?_
    refine sx_addN X (2 + i) (by omega) dL_law_222 ?_
    refine sx_sld X hX hbl hbA hP.2 (2 + i) (by omega) (by omega) dL_law_223 ?_
    refine lv_aload_n X.1.1 X.1.2.1 dL_law_224 rfl (lv_at hl 0 rfl) ?_
    refine lv_iload_n X.1.1 X.1.2.1 dL_law_225 rfl (lv_at hl 3 rfl) ?_
    refine lv_iconst (v := nI 3) X.1.1 X.1.2.1 dL_law_226 (by decide) ?_
    refine sx_addN X (3 + i) (by omega) dL_law_227 ?_
    refine sx_sld X hX hbl hbA hP.2 (3 + i) (by omega) (by omega) dL_law_228 ?_
    refine sx_cvI (As := [.int (xs (1 + i)), .int (xs (2 + i)), .int (xs (3 + i))]) (rest := [.int r1]) X (mX7_event l (n := n) hwf.2.1 hwf.1 hwf.2.2.2.1 h91 h92) gL_law_X7_event rfl yv_X7_event ⟨Nat.le_of_ble_eq_true rfl, Nat.le_of_ble_eq_true rfl⟩ h91 (by decide) rfl rfl hl.1 rfl (Nat.le_of_ble_eq_true rfl) dL_law_229 ⟨Nat.le_of_ble_eq_true rfl, Nat.le_of_ble_eq_true rfl⟩ hs rfl hP (fun r2 F2 H2 l2 hp hP => ?_)
    obtain ⟨e2, o2, hr2⟩ := hp
    rw [hev] at e2 hr2
    refine lv_icmp_eq X.1.1 X.1.2.1 (tgt := 761) dL_law_232 (by decide) (fun _ => ?_) (fun q => absurd (hr2) q)
    exact kk _ _ _ (⟨comeF w n t s x, jo, ik, A, 1 + n, en, len, m, hJ.world (fun j hj => (o2 j (by omega)).trans (o1 j (by omega))) ⟨xl, z5, z6, z7, z8, z9, z10, z11, (o2 91 (by omega)).trans h91⟩ (WV.upd hW1 (fun j a b => o2 j (by omega))) e2 (WF_come hwf hn1 ht hs8 hx hxt) (HO_come hHO hwf.2.2.2.1 ht hs8 hx) (fun k hk => come_far hwf hn1 ht hs8 hx hk)⟩) hP
set_option maxHeartbeats 800000 in
set_option maxRecDepth 100000 in
theorem law_5 {G : sx_G} {pp : Program} {l : Launch} {ee : Env} {ss : State} {mm : MethodId} {below : List Frame} {meth : Method} {kc : Code} {nm : String} {b K i : Nat} {xs : Nat → Int32} {Q : State → Prop} (X : sx_X G pp mm kc cL_law 4 ss #[Value.ref b] wsL_law RL meth (some .boolean) nm) (hs : ss.heap.size = sx_b G + 0) (hX : va_X b K xs ss ss.heap) (hbl : b < ss.heap.size) (hi : i + 4 ≤ K) (hK : K ≤ 2048) {F : Nat → va_E} {H : Heap} {lv : List Loc} {ls : Array Slot} (hI : LI G F) (hP : sx_H G 97 F ss.heap H lv) (hl : lv_has ls 4 [(0, .ref b), (1, rf G 0), (2, rf G 91), (3, .int (nI i))]) (kk : ∀ (F1 : Nat → va_E) (H1 : Heap) (l1 : List Loc), LI G F1 → sx_H G 97 F1 ss.heap H1 l1 → W pp l ee room_1 ss mm #[Value.ref b] below meth kc H1 l1 97 20000 Q (F0 mm 761 ls [])) : W pp l ee room_1 ss mm #[Value.ref b] below meth kc H lv 97 20000 Q (F0 mm 237 ls []) := by
  have hbA : ¬ sx_A G b := by show ¬ sx_b G ≤ b; omega
  obtain ⟨w, jo, ik, A, n, en, len, m, hJ⟩ := hI
  obtain ⟨h0, hW, ⟨im, h28, him⟩, hS0, hS1, hIm, h83, ⟨dv, iv, wv, rv, pv, h84⟩, ⟨jl, jp, h85, h86, h87, hBk⟩, ⟨lt, h88, hlt⟩, ⟨lw, tb, h89, h90⟩, ⟨xl, z5, z6, z7, z8, z9, z10, z11, h91⟩, h92, h93, h94, ⟨ol, ot, h95, h96⟩, hwf, hHO, hA, hen, hjo⟩ := id hJ
  refine lv_aload_n X.1.1 X.1.2.1 dL_law_237 rfl (lv_at hl 1 rfl) ?_
  refine lv_aload_n X.1.1 X.1.2.1 dL_law_238 rfl (lv_at hl 0 rfl) ?_
  refine lv_iload_n X.1.1 X.1.2.1 dL_law_239 rfl (lv_at hl 3 rfl) ?_
  refine lv_iconst (v := nI 1) X.1.1 X.1.2.1 dL_law_240 (by decide) ?_
  refine sx_addN X (1 + i) (by omega) dL_law_241 ?_
  refine sx_sld X hX hbl hbA hP.2 (1 + i) (by omega) (by omega) dL_law_242 ?_
  refine lv_aload_n X.1.1 X.1.2.1 dL_law_243 rfl (lv_at hl 0 rfl) ?_
  refine lv_iload_n X.1.1 X.1.2.1 dL_law_244 rfl (lv_at hl 3 rfl) ?_
  refine lv_iconst (v := nI 2) X.1.1 X.1.2.1 dL_law_245 (by decide) ?_
  refine sx_addN X (2 + i) (by omega) dL_law_246 ?_
  refine sx_sld X hX hbl hbA hP.2 (2 + i) (by omega) (by omega) dL_law_247 ?_
  refine sx_cvI (As := [.int (xs (1 + i)), .int (xs (2 + i))]) (rest := []) X (mX6_jump l hW hwf h0) gL_law_X6_jump rfl yv_X6_jump ⟨Nat.le_of_ble_eq_true rfl, Nat.le_of_ble_eq_true rfl⟩ h0 (by decide) rfl rfl hl.1 rfl (Nat.le_of_ble_eq_true rfl) dL_law_248 ⟨Nat.le_of_ble_eq_true rfl, Nat.le_of_ble_eq_true rfl⟩ hs rfl hP (fun r1 F1 H1 l1 hp hP => ?_)
  obtain ⟨hF, hev⟩ | ⟨t, ht, hx, hev, hW1, o1⟩ := hp
  · have hF := hF.symm
    subst hF
    refine lv_aload_n X.1.1 X.1.2.1 dL_law_251 rfl (lv_at hl 2 rfl) ?_
    refine lv_aload_n X.1.1 X.1.2.1 dL_law_252 rfl (lv_at hl 0 rfl) ?_
    refine lv_iload_n X.1.1 X.1.2.1 dL_law_253 rfl (lv_at hl 3 rfl) ?_
    refine lv_iconst (v := nI 1) X.1.1 X.1.2.1 dL_law_254 (by decide) ?_
    refine sx_addN X (1 + i) (by omega) dL_law_255 ?_
    refine sx_sld X hX hbl hbA hP.2 (1 + i) (by omega) (by omega) dL_law_256 ?_
    refine lv_aload_n X.1.1 X.1.2.1 dL_law_257 rfl (lv_at hl 0 rfl) ?_
    refine lv_iload_n X.1.1 X.1.2.1 dL_law_258 rfl (lv_at hl 3 rfl) ?_
    refine lv_iconst (v := nI 2) X.1.1 X.1.2.1 dL_law_259 (by decide) ?_
    refine sx_addN X (2 + i) (by omega) dL_law_260 ?_
    refine sx_sld X hX hbl hbA hP.2 (2 + i) (by omega) (by omega) dL_law_261 ?_
    refine sx_cvI (As := [.int (xs (1 + i)), .int (xs (2 + i))]) (rest := [.int r1]) X (mX7_jump l h91 h92) gL_law_X7_jump rfl yv_X7_jump ⟨Nat.le_of_ble_eq_true rfl, Nat.le_of_ble_eq_true rfl⟩ h91 (by decide) rfl rfl hl.1 rfl (Nat.le_of_ble_eq_true rfl) dL_law_262 ⟨Nat.le_of_ble_eq_true rfl, Nat.le_of_ble_eq_true rfl⟩ hs rfl hP (fun r2 F2 H2 l2 hp hP => ?_)
    obtain ⟨e2, o2, hr2⟩ := hp
    rw [hev] at e2 hr2
    have hFF := same92 o2 (e2.trans h92.symm)
    refine lv_icmp_eq X.1.1 X.1.2.1 (tgt := 761) dL_law_265 (by decide) (fun _ => ?_) (fun q => absurd (hr2) q)
    exact kk _ _ _ (by rw [hFF]; exact ⟨w, jo, ik, A, n, en, len, m, hJ⟩) hP
  · have h91 := (o1 91 (by omega)).trans h91
    have h92 := (o1 92 (by omega)).trans h92
    refine lv_aload_n X.1.1 X.1.2.1 dL_law_251 rfl (lv_at hl 2 rfl) ?_
    refine lv_aload_n X.1.1 X.1.2.1 dL_law_252 rfl (lv_at hl 0 rfl) ?_
    refine lv_iload_n X.1.1 X.1.2.1 dL_law_253 rfl (lv_at hl 3 rfl) ?_
    refine lv_iconst (v := nI 1) X.1.1 X.1.2.1 dL_law_254 (by decide) ?_
    refine sx_addN X (1 + i) (by omega) dL_law_255 ?_
    refine sx_sld X hX hbl hbA hP.2 (1 + i) (by omega) (by omega) dL_law_256 ?_
    refine lv_aload_n X.1.1 X.1.2.1 dL_law_257 rfl (lv_at hl 0 rfl) ?_
    refine lv_iload_n X.1.1 X.1.2.1 dL_law_258 rfl (lv_at hl 3 rfl) ?_
    refine lv_iconst (v := nI 2) X.1.1 X.1.2.1 dL_law_259 (by decide) ?_
    refine sx_addN X (2 + i) (by omega) dL_law_260 ?_
    refine sx_sld X hX hbl hbA hP.2 (2 + i) (by omega) (by omega) dL_law_261 ?_
    refine sx_cvI (As := [.int (xs (1 + i)), .int (xs (2 + i))]) (rest := [.int r1]) X (mX7_jump l h91 h92) gL_law_X7_jump rfl yv_X7_jump ⟨Nat.le_of_ble_eq_true rfl, Nat.le_of_ble_eq_true rfl⟩ h91 (by decide) rfl rfl hl.1 rfl (Nat.le_of_ble_eq_true rfl) dL_law_262 ⟨Nat.le_of_ble_eq_true rfl, Nat.le_of_ble_eq_true rfl⟩ hs rfl hP (fun r2 F2 H2 l2 hp hP => ?_)
    obtain ⟨e2, o2, hr2⟩ := hp
    rw [hev] at e2 hr2
    rw [hx] at hev
    have hge := jump_ge hwf ht hev
    refine lv_icmp_eq X.1.1 X.1.2.1 (tgt := 761) dL_law_265 (by decide) (fun _ => ?_) (fun q => absurd (hr2) q)
    exact kk _ _ _ (⟨upd w (4 + 5 * t) (w (4 + 5 * t) + xs (2 + i)), jo, ik, A, n, en, len, m, hJ.world (fun j hj => (o2 j (by omega)).trans (o1 j (by omega))) ⟨xl, z5, z6, z7, z8, z9, z10, z11, (o2 91 (by omega)).trans h91⟩ (WV.upd hW1 (fun j a b => o2 j (by omega))) e2 (WF_jump hwf ht hge) (hHO.congr (fun k hk => pk_un (by omega))) (fun k hk => pk_un (by omega))⟩) hP
set_option maxHeartbeats 800000 in
set_option maxRecDepth 100000 in
theorem law_6 {G : sx_G} {pp : Program} {l : Launch} {ee : Env} {ss : State} {mm : MethodId} {below : List Frame} {meth : Method} {kc : Code} {nm : String} {b K i : Nat} {xs : Nat → Int32} {Q : State → Prop} (X : sx_X G pp mm kc cL_law 4 ss #[Value.ref b] wsL_law RL meth (some .boolean) nm) (hs : ss.heap.size = sx_b G + 0) (hX : va_X b K xs ss ss.heap) (hbl : b < ss.heap.size) (hi : i + 4 ≤ K) (hK : K ≤ 2048) {F : Nat → va_E} {H : Heap} {lv : List Loc} {ls : Array Slot} (hI : LI G F) (hP : sx_H G 97 F ss.heap H lv) (hl : lv_has ls 4 [(0, .ref b), (1, rf G 0), (2, rf G 91), (3, .int (nI i))]) (kk : ∀ (F1 : Nat → va_E) (H1 : Heap) (l1 : List Loc), LI G F1 → sx_H G 97 F1 ss.heap H1 l1 → W pp l ee room_1 ss mm #[Value.ref b] below meth kc H1 l1 97 20000 Q (F0 mm 761 ls [])) : W pp l ee room_1 ss mm #[Value.ref b] below meth kc H lv 97 20000 Q (F0 mm 270 ls []) := by
  have hbA : ¬ sx_A G b := by show ¬ sx_b G ≤ b; omega
  obtain ⟨w, jo, ik, A, n, en, len, m, hJ⟩ := hI
  obtain ⟨h0, hW, ⟨im, h28, him⟩, hS0, hS1, hIm, h83, ⟨dv, iv, wv, rv, pv, h84⟩, ⟨jl, jp, h85, h86, h87, hBk⟩, ⟨lt, h88, hlt⟩, ⟨lw, tb, h89, h90⟩, ⟨xl, z5, z6, z7, z8, z9, z10, z11, h91⟩, h92, h93, h94, ⟨ol, ot, h95, h96⟩, hwf, hHO, hA, hen, hjo⟩ := id hJ
  refine lv_aload_n X.1.1 X.1.2.1 dL_law_270 rfl (lv_at hl 1 rfl) ?_
  refine lv_aload_n X.1.1 X.1.2.1 dL_law_271 rfl (lv_at hl 0 rfl) ?_
  refine lv_iload_n X.1.1 X.1.2.1 dL_law_272 rfl (lv_at hl 3 rfl) ?_
  refine lv_iconst (v := nI 1) X.1.1 X.1.2.1 dL_law_273 (by decide) ?_
  refine sx_addN X (1 + i) (by omega) dL_law_274 ?_
  refine sx_sld X hX hbl hbA hP.2 (1 + i) (by omega) (by omega) dL_law_275 ?_
  refine lv_aload_n X.1.1 X.1.2.1 dL_law_276 rfl (lv_at hl 0 rfl) ?_
  refine lv_iload_n X.1.1 X.1.2.1 dL_law_277 rfl (lv_at hl 3 rfl) ?_
  refine lv_iconst (v := nI 2) X.1.1 X.1.2.1 dL_law_278 (by decide) ?_
  refine sx_addN X (2 + i) (by omega) dL_law_279 ?_
  refine sx_sld X hX hbl hbA hP.2 (2 + i) (by omega) (by omega) dL_law_280 ?_
  refine sx_cvI (As := [.int (xs (1 + i)), .int (xs (2 + i))]) (rest := []) X (mX6_drift l hW hwf h0) gL_law_X6_drift rfl yv_X6_drift ⟨Nat.le_of_ble_eq_true rfl, Nat.le_of_ble_eq_true rfl⟩ h0 (by decide) rfl rfl hl.1 rfl (Nat.le_of_ble_eq_true rfl) dL_law_281 ⟨Nat.le_of_ble_eq_true rfl, Nat.le_of_ble_eq_true rfl⟩ hs rfl hP (fun r1 F1 H1 l1 hp hP => ?_)
  obtain ⟨g1, hF, hr1⟩ | ⟨m1, sd, a1, a2, b1, b2, ex, ey, hW1, hwf1, o1, hr1⟩ := hp
  · have hF := hF.symm
    subst hF
    refine lv_aload_n X.1.1 X.1.2.1 dL_law_284 rfl (lv_at hl 2 rfl) ?_
    refine lv_aload_n X.1.1 X.1.2.1 dL_law_285 rfl (lv_at hl 0 rfl) ?_
    refine lv_iload_n X.1.1 X.1.2.1 dL_law_286 rfl (lv_at hl 3 rfl) ?_
    refine lv_iconst (v := nI 1) X.1.1 X.1.2.1 dL_law_287 (by decide) ?_
    refine sx_addN X (1 + i) (by omega) dL_law_288 ?_
    refine sx_sld X hX hbl hbA hP.2 (1 + i) (by omega) (by omega) dL_law_289 ?_
    refine lv_aload_n X.1.1 X.1.2.1 dL_law_290 rfl (lv_at hl 0 rfl) ?_
    refine lv_iload_n X.1.1 X.1.2.1 dL_law_291 rfl (lv_at hl 3 rfl) ?_
    refine lv_iconst (v := nI 2) X.1.1 X.1.2.1 dL_law_292 (by decide) ?_
    refine sx_addN X (2 + i) (by omega) dL_law_293 ?_
    refine sx_sld X hX hbl hbA hP.2 (2 + i) (by omega) (by omega) dL_law_294 ?_
    refine sx_cvI (As := [.int (xs (1 + i)), .int (xs (2 + i))]) (rest := [.int r1]) X (mX7_drift l hwf h91 h92) gL_law_X7_drift rfl yv_X7_drift ⟨Nat.le_of_ble_eq_true rfl, Nat.le_of_ble_eq_true rfl⟩ h91 (by decide) rfl rfl hl.1 rfl (Nat.le_of_ble_eq_true rfl) dL_law_295 ⟨Nat.le_of_ble_eq_true rfl, Nat.le_of_ble_eq_true rfl⟩ hs rfl hP (fun r2 F2 H2 l2 hp hP => ?_)
    obtain ⟨g2, hF2, hr2⟩ | ⟨m2, sd2, a3, a4, b3, b4, ex2, ey2, -⟩ := hp
    · refine lv_icmp_eq X.1.1 X.1.2.1 (tgt := 761) dL_law_298 (by decide) (fun _ => ?_) (fun q => absurd (hr1.symm.trans hr2) q)
      exact kk _ _ _ (by rw [hF2]; exact ⟨w, jo, ik, A, n, en, len, m, hJ⟩) hP
    · exact absurd ⟨⟨m2, a3, a4, ex2⟩, ⟨sd2, b3, b4, ey2⟩⟩ g1
  · have h91 := (o1 91 (by omega)).trans h91
    have h92 := (o1 92 (by omega)).trans h92
    refine lv_aload_n X.1.1 X.1.2.1 dL_law_284 rfl (lv_at hl 2 rfl) ?_
    refine lv_aload_n X.1.1 X.1.2.1 dL_law_285 rfl (lv_at hl 0 rfl) ?_
    refine lv_iload_n X.1.1 X.1.2.1 dL_law_286 rfl (lv_at hl 3 rfl) ?_
    refine lv_iconst (v := nI 1) X.1.1 X.1.2.1 dL_law_287 (by decide) ?_
    refine sx_addN X (1 + i) (by omega) dL_law_288 ?_
    refine sx_sld X hX hbl hbA hP.2 (1 + i) (by omega) (by omega) dL_law_289 ?_
    refine lv_aload_n X.1.1 X.1.2.1 dL_law_290 rfl (lv_at hl 0 rfl) ?_
    refine lv_iload_n X.1.1 X.1.2.1 dL_law_291 rfl (lv_at hl 3 rfl) ?_
    refine lv_iconst (v := nI 2) X.1.1 X.1.2.1 dL_law_292 (by decide) ?_
    refine sx_addN X (2 + i) (by omega) dL_law_293 ?_
    refine sx_sld X hX hbl hbA hP.2 (2 + i) (by omega) (by omega) dL_law_294 ?_
    refine sx_cvI (As := [.int (xs (1 + i)), .int (xs (2 + i))]) (rest := [.int r1]) X (mX7_drift l hwf h91 h92) gL_law_X7_drift rfl yv_X7_drift ⟨Nat.le_of_ble_eq_true rfl, Nat.le_of_ble_eq_true rfl⟩ h91 (by decide) rfl rfl hl.1 rfl (Nat.le_of_ble_eq_true rfl) dL_law_295 ⟨Nat.le_of_ble_eq_true rfl, Nat.le_of_ble_eq_true rfl⟩ hs rfl hP (fun r2 F2 H2 l2 hp hP => ?_)
    obtain ⟨g2, hF2, hr2⟩ | ⟨m2, sd2, a3, a4, b3, b4, ex2, ey2, e2, ⟨z, e91⟩, o2, hr2⟩ := hp
    · exact absurd ⟨⟨m1, a1, a2, ex⟩, ⟨sd, b1, b2, ey⟩⟩ g2
    · have q1 := (nI_eq (by omega) (by omega)).mp (ex.symm.trans ex2)
      have q2 := (nI_eq (by omega) (by omega)).mp (ey.symm.trans ey2)
      subst q1
      subst q2
      obtain ⟨-, hk2, hk3⟩ := drI_keep hwf hHO (sd := sd) m1
      refine lv_icmp_eq X.1.1 X.1.2.1 (tgt := 761) dL_law_298 (by decide) (fun _ => ?_) (fun q => absurd (hr1.symm.trans hr2) q)
      exact kk _ _ _ (⟨(drI (w, n, sd, 0) m1).1, jo, ik, A, (drI (w, n, sd, 0) m1).2.1, en, len, m, hJ.world (fun j hj => (o2 j (by omega)).trans (o1 j (by omega))) ⟨z, z5, z6, z7, z8, z9, z10, z11, e91⟩ (WV.upd hW1 (fun j a b => o2 j (by omega))) e2 (hwf1) (hk2) (hk3)⟩) hP
set_option maxHeartbeats 800000 in
set_option maxRecDepth 100000 in
theorem law_7 {G : sx_G} {pp : Program} {l : Launch} {ee : Env} {ss : State} {mm : MethodId} {below : List Frame} {meth : Method} {kc : Code} {nm : String} {b K i : Nat} {xs : Nat → Int32} {Q : State → Prop} (X : sx_X G pp mm kc cL_law 4 ss #[Value.ref b] wsL_law RL meth (some .boolean) nm) (hs : ss.heap.size = sx_b G + 0) (hX : va_X b K xs ss ss.heap) (hbl : b < ss.heap.size) (hi : i + 4 ≤ K) (hK : K ≤ 2048) {F : Nat → va_E} {H : Heap} {lv : List Loc} {ls : Array Slot} (hI : LI G F) (hP : sx_H G 97 F ss.heap H lv) (hl : lv_has ls 4 [(0, .ref b), (1, rf G 0), (2, rf G 91), (3, .int (nI i))]) (kk : ∀ (F1 : Nat → va_E) (H1 : Heap) (l1 : List Loc), LI G F1 → sx_H G 97 F1 ss.heap H1 l1 → W pp l ee room_1 ss mm #[Value.ref b] below meth kc H1 l1 97 20000 Q (F0 mm 761 ls [])) : W pp l ee room_1 ss mm #[Value.ref b] below meth kc H lv 97 20000 Q (F0 mm 303 ls []) := by
  have hbA : ¬ sx_A G b := by show ¬ sx_b G ≤ b; omega
  obtain ⟨w, jo, ik, A, n, en, len, m, hJ⟩ := hI
  obtain ⟨h0, hW, ⟨im, h28, him⟩, hS0, hS1, hIm, h83, ⟨dv, iv, wv, rv, pv, h84⟩, ⟨jl, jp, h85, h86, h87, hBk⟩, ⟨lt, h88, hlt⟩, ⟨lw, tb, h89, h90⟩, ⟨xl, z5, z6, z7, z8, z9, z10, z11, h91⟩, h92, h93, h94, ⟨ol, ot, h95, h96⟩, hwf, hHO, hA, hen, hjo⟩ := id hJ
  have h84t : F 84 = ob 4 [.int (w 1372), .int (w 1613), rf G 85, rf G 88, dv, iv, wv, rv, pv, rf G 89, rf G 90] := by rw [hA.1]; exact h84
  refine lv_aload_n X.1.1 X.1.2.1 dL_law_303 rfl (lv_at hl 1 rfl) ?_
  refine lv_aload_n X.1.1 X.1.2.1 dL_law_304 rfl (lv_at hl 0 rfl) ?_
  refine lv_iload_n X.1.1 X.1.2.1 dL_law_305 rfl (lv_at hl 3 rfl) ?_
  refine lv_iconst (v := nI 1) X.1.1 X.1.2.1 dL_law_306 (by decide) ?_
  refine sx_addN X (1 + i) (by omega) dL_law_307 ?_
  refine sx_sld X hX hbl hbA hP.2 (1 + i) (by omega) (by omega) dL_law_308 ?_
  refine sx_cvI (As := [.int (xs (1 + i))]) (rest := []) X (mX6_told l (en := nI en) hW hwf hHO h0 h84t h85) gL_law_X6_told rfl yv_X6_told ⟨Nat.le_of_ble_eq_true rfl, Nat.le_of_ble_eq_true rfl⟩ h0 (by decide) rfl rfl hl.1 rfl (Nat.le_of_ble_eq_true rfl) dL_law_309 ⟨Nat.le_of_ble_eq_true rfl, Nat.le_of_ble_eq_true rfl⟩ hs rfl hP (fun r1 F1 H1 l1 hp hP => ?_)
  obtain ⟨rfl, hr1⟩ := hp
  refine lv_aload_n X.1.1 X.1.2.1 dL_law_312 rfl (lv_at hl 2 rfl) ?_
  refine lv_aload_n X.1.1 X.1.2.1 dL_law_313 rfl (lv_at hl 0 rfl) ?_
  refine lv_iload_n X.1.1 X.1.2.1 dL_law_314 rfl (lv_at hl 3 rfl) ?_
  refine lv_iconst (v := nI 1) X.1.1 X.1.2.1 dL_law_315 (by decide) ?_
  refine sx_addN X (1 + i) (by omega) dL_law_316 ?_
  refine sx_sld X hX hbl hbA hP.2 (1 + i) (by omega) (by omega) dL_law_317 ?_
  refine sx_cvI (As := [.int (xs (1 + i))]) (rest := [.int r1]) X (mX7_told l (en := nI en) (n := n) hwf.2.1 hwf.1 hwf.ev h91 h92) gL_law_X7_told rfl yv_X7_told ⟨Nat.le_of_ble_eq_true rfl, Nat.le_of_ble_eq_true rfl⟩ h91 (by decide) rfl rfl hl.1 rfl (Nat.le_of_ble_eq_true rfl) dL_law_318 ⟨Nat.le_of_ble_eq_true rfl, Nat.le_of_ble_eq_true rfl⟩ hs rfl hP (fun r2 F2 H2 l2 hp hP => ?_)
  obtain ⟨rfl, hr2⟩ := hp
  refine lv_icmp_eq X.1.1 X.1.2.1 (tgt := 761) dL_law_321 (by decide) (fun _ => ?_) (fun q => absurd (hr1.symm.trans hr2) q)
  exact kk _ _ _ (⟨w, jo, ik, A, n, en, len, m, hJ⟩) hP
set_option maxHeartbeats 800000 in
set_option maxRecDepth 100000 in
theorem law_8 {G : sx_G} {pp : Program} {l : Launch} {ee : Env} {ss : State} {mm : MethodId} {below : List Frame} {meth : Method} {kc : Code} {nm : String} {b K i : Nat} {xs : Nat → Int32} {Q : State → Prop} (X : sx_X G pp mm kc cL_law 4 ss #[Value.ref b] wsL_law RL meth (some .boolean) nm) (hs : ss.heap.size = sx_b G + 0) (hX : va_X b K xs ss ss.heap) (hbl : b < ss.heap.size) (hi : i + 4 ≤ K) (hK : K ≤ 2048) {F : Nat → va_E} {H : Heap} {lv : List Loc} {ls : Array Slot} (hI : LI G F) (hP : sx_H G 97 F ss.heap H lv) (hl : lv_has ls 4 [(0, .ref b), (1, rf G 0), (2, rf G 91), (3, .int (nI i))]) (kk : ∀ (F1 : Nat → va_E) (H1 : Heap) (l1 : List Loc), LI G F1 → sx_H G 97 F1 ss.heap H1 l1 → W pp l ee room_1 ss mm #[Value.ref b] below meth kc H1 l1 97 20000 Q (F0 mm 761 ls [])) : W pp l ee room_1 ss mm #[Value.ref b] below meth kc H lv 97 20000 Q (F0 mm 326 ls []) := by
  have hbA : ¬ sx_A G b := by show ¬ sx_b G ≤ b; omega
  obtain ⟨w, jo, ik, A, n, en, len, m, hJ⟩ := hI
  obtain ⟨h0, hW, ⟨im, h28, him⟩, hS0, hS1, hIm, h83, ⟨dv, iv, wv, rv, pv, h84⟩, ⟨jl, jp, h85, h86, h87, hBk⟩, ⟨lt, h88, hlt⟩, ⟨lw, tb, h89, h90⟩, ⟨xl, z5, z6, z7, z8, z9, z10, z11, h91⟩, h92, h93, h94, ⟨ol, ot, h95, h96⟩, hwf, hHO, hA, hen, hjo⟩ := id hJ
  refine lv_aload_n X.1.1 X.1.2.1 dL_law_326 rfl (lv_at hl 1 rfl) ?_
  refine lv_aload_n X.1.1 X.1.2.1 dL_law_327 rfl (lv_at hl 0 rfl) ?_
  refine lv_iload_n X.1.1 X.1.2.1 dL_law_328 rfl (lv_at hl 3 rfl) ?_
  refine lv_iconst (v := nI 1) X.1.1 X.1.2.1 dL_law_329 (by decide) ?_
  refine sx_addN X (1 + i) (by omega) dL_law_330 ?_
  refine sx_sld X hX hbl hbA hP.2 (1 + i) (by omega) (by omega) dL_law_331 ?_
  refine lv_aload_n X.1.1 X.1.2.1 dL_law_332 rfl (lv_at hl 0 rfl) ?_
  refine lv_iload_n X.1.1 X.1.2.1 dL_law_333 rfl (lv_at hl 3 rfl) ?_
  refine lv_iconst (v := nI 2) X.1.1 X.1.2.1 dL_law_334 (by decide) ?_
  refine sx_addN X (2 + i) (by omega) dL_law_335 ?_
  refine sx_sld X hX hbl hbA hP.2 (2 + i) (by omega) (by omega) dL_law_336 ?_
  refine lv_aload_n X.1.1 X.1.2.1 dL_law_337 rfl (lv_at hl 0 rfl) ?_
  refine lv_iload_n X.1.1 X.1.2.1 dL_law_338 rfl (lv_at hl 3 rfl) ?_
  refine lv_iconst (v := nI 3) X.1.1 X.1.2.1 dL_law_339 (by decide) ?_
  refine sx_addN X (3 + i) (by omega) dL_law_340 ?_
  refine sx_sld X hX hbl hbA hP.2 (3 + i) (by omega) (by omega) dL_law_341 ?_
  refine sx_cvI (As := [.int (xs (1 + i)), .int (xs (2 + i)), .int (xs (3 + i))]) (rest := []) X (mX6_clock l hW hwf h0) gL_law_X6_clock rfl yv_X6_clock ⟨Nat.le_of_ble_eq_true rfl, Nat.le_of_ble_eq_true rfl⟩ h0 (by decide) rfl rfl hl.1 rfl (Nat.le_of_ble_eq_true rfl) dL_law_342 ⟨Nat.le_of_ble_eq_true rfl, Nat.le_of_ble_eq_true rfl⟩ hs rfl hP (fun r1 F1 H1 l1 hp hP => ?_)
  obtain ⟨rfl, hr1⟩ := hp
  refine lv_aload_n X.1.1 X.1.2.1 dL_law_345 rfl (lv_at hl 2 rfl) ?_
  refine lv_aload_n X.1.1 X.1.2.1 dL_law_346 rfl (lv_at hl 0 rfl) ?_
  refine lv_iload_n X.1.1 X.1.2.1 dL_law_347 rfl (lv_at hl 3 rfl) ?_
  refine lv_iconst (v := nI 1) X.1.1 X.1.2.1 dL_law_348 (by decide) ?_
  refine sx_addN X (1 + i) (by omega) dL_law_349 ?_
  refine sx_sld X hX hbl hbA hP.2 (1 + i) (by omega) (by omega) dL_law_350 ?_
  refine lv_aload_n X.1.1 X.1.2.1 dL_law_351 rfl (lv_at hl 0 rfl) ?_
  refine lv_iload_n X.1.1 X.1.2.1 dL_law_352 rfl (lv_at hl 3 rfl) ?_
  refine lv_iconst (v := nI 2) X.1.1 X.1.2.1 dL_law_353 (by decide) ?_
  refine sx_addN X (2 + i) (by omega) dL_law_354 ?_
  refine sx_sld X hX hbl hbA hP.2 (2 + i) (by omega) (by omega) dL_law_355 ?_
  refine lv_aload_n X.1.1 X.1.2.1 dL_law_356 rfl (lv_at hl 0 rfl) ?_
  refine lv_iload_n X.1.1 X.1.2.1 dL_law_357 rfl (lv_at hl 3 rfl) ?_
  refine lv_iconst (v := nI 3) X.1.1 X.1.2.1 dL_law_358 (by decide) ?_
  refine sx_addN X (3 + i) (by omega) dL_law_359 ?_
  refine sx_sld X hX hbl hbA hP.2 (3 + i) (by omega) (by omega) dL_law_360 ?_
  refine sx_cvI (As := [.int (xs (1 + i)), .int (xs (2 + i)), .int (xs (3 + i))]) (rest := [.int r1]) X (mX7_clock l h91 h92) gL_law_X7_clock rfl yv_X7_clock ⟨Nat.le_of_ble_eq_true rfl, Nat.le_of_ble_eq_true rfl⟩ h91 (by decide) rfl rfl hl.1 rfl (Nat.le_of_ble_eq_true rfl) dL_law_361 ⟨Nat.le_of_ble_eq_true rfl, Nat.le_of_ble_eq_true rfl⟩ hs rfl hP (fun r2 F2 H2 l2 hp hP => ?_)
  obtain ⟨rfl, hr2⟩ := hp
  refine lv_icmp_eq X.1.1 X.1.2.1 (tgt := 761) dL_law_364 (by decide) (fun _ => ?_) (fun q => absurd (hr1.symm.trans hr2) q)
  exact kk _ _ _ (⟨w, jo, ik, A, n, en, len, m, hJ⟩) hP
set_option maxHeartbeats 800000 in
set_option maxRecDepth 100000 in
theorem law_9 {G : sx_G} {pp : Program} {l : Launch} {ee : Env} {ss : State} {mm : MethodId} {below : List Frame} {meth : Method} {kc : Code} {nm : String} {b K i : Nat} {xs : Nat → Int32} {Q : State → Prop} (X : sx_X G pp mm kc cL_law 4 ss #[Value.ref b] wsL_law RL meth (some .boolean) nm) (hs : ss.heap.size = sx_b G + 0) (hX : va_X b K xs ss ss.heap) (hbl : b < ss.heap.size) (hi : i + 4 ≤ K) (hK : K ≤ 2048) {F : Nat → va_E} {H : Heap} {lv : List Loc} {ls : Array Slot} (hI : LI G F) (hP : sx_H G 97 F ss.heap H lv) (hl : lv_has ls 4 [(0, .ref b), (1, rf G 0), (2, rf G 91), (3, .int (nI i))]) (kk : ∀ (F1 : Nat → va_E) (H1 : Heap) (l1 : List Loc), LI G F1 → sx_H G 97 F1 ss.heap H1 l1 → W pp l ee room_1 ss mm #[Value.ref b] below meth kc H1 l1 97 20000 Q (F0 mm 761 ls [])) : W pp l ee room_1 ss mm #[Value.ref b] below meth kc H lv 97 20000 Q (F0 mm 369 ls []) := by
  have hbA : ¬ sx_A G b := by show ¬ sx_b G ≤ b; omega
  obtain ⟨w, jo, ik, A, n, en, len, m, hJ⟩ := hI
  obtain ⟨h0, hW, ⟨im, h28, him⟩, hS0, hS1, hIm, h83, ⟨dv, iv, wv, rv, pv, h84⟩, ⟨jl, jp, h85, h86, h87, hBk⟩, ⟨lt, h88, hlt⟩, ⟨lw, tb, h89, h90⟩, ⟨xl, z5, z6, z7, z8, z9, z10, z11, h91⟩, h92, h93, h94, ⟨ol, ot, h95, h96⟩, hwf, hHO, hA, hen, hjo⟩ := id hJ
  refine lv_aload_n X.1.1 X.1.2.1 dL_law_369 rfl (lv_at hl 1 rfl) ?_
  refine lv_aload_n X.1.1 X.1.2.1 dL_law_370 rfl (lv_at hl 0 rfl) ?_
  refine lv_iload_n X.1.1 X.1.2.1 dL_law_371 rfl (lv_at hl 3 rfl) ?_
  refine lv_iconst (v := nI 1) X.1.1 X.1.2.1 dL_law_372 (by decide) ?_
  refine sx_addN X (1 + i) (by omega) dL_law_373 ?_
  refine sx_sld X hX hbl hbA hP.2 (1 + i) (by omega) (by omega) dL_law_374 ?_
  refine lv_aload_n X.1.1 X.1.2.1 dL_law_375 rfl (lv_at hl 0 rfl) ?_
  refine lv_iload_n X.1.1 X.1.2.1 dL_law_376 rfl (lv_at hl 3 rfl) ?_
  refine lv_iconst (v := nI 2) X.1.1 X.1.2.1 dL_law_377 (by decide) ?_
  refine sx_addN X (2 + i) (by omega) dL_law_378 ?_
  refine sx_sld X hX hbl hbA hP.2 (2 + i) (by omega) (by omega) dL_law_379 ?_
  refine sx_cvI (As := [.int (xs (1 + i)), .int (xs (2 + i))]) (rest := []) X (mX6_eventOf l hW hwf h0) gL_law_X6_eventOf rfl yv_X6_eventOf ⟨Nat.le_of_ble_eq_true rfl, Nat.le_of_ble_eq_true rfl⟩ h0 (by decide) rfl rfl hl.1 rfl (Nat.le_of_ble_eq_true rfl) dL_law_380 ⟨Nat.le_of_ble_eq_true rfl, Nat.le_of_ble_eq_true rfl⟩ hs rfl hP (fun r1 F1 H1 l1 hp hP => ?_)
  obtain ⟨rfl, hr1⟩ := hp
  refine lv_aload_n X.1.1 X.1.2.1 dL_law_383 rfl (lv_at hl 2 rfl) ?_
  refine lv_aload_n X.1.1 X.1.2.1 dL_law_384 rfl (lv_at hl 0 rfl) ?_
  refine lv_iload_n X.1.1 X.1.2.1 dL_law_385 rfl (lv_at hl 3 rfl) ?_
  refine lv_iconst (v := nI 1) X.1.1 X.1.2.1 dL_law_386 (by decide) ?_
  refine sx_addN X (1 + i) (by omega) dL_law_387 ?_
  refine sx_sld X hX hbl hbA hP.2 (1 + i) (by omega) (by omega) dL_law_388 ?_
  refine lv_aload_n X.1.1 X.1.2.1 dL_law_389 rfl (lv_at hl 0 rfl) ?_
  refine lv_iload_n X.1.1 X.1.2.1 dL_law_390 rfl (lv_at hl 3 rfl) ?_
  refine lv_iconst (v := nI 2) X.1.1 X.1.2.1 dL_law_391 (by decide) ?_
  refine sx_addN X (2 + i) (by omega) dL_law_392 ?_
  refine sx_sld X hX hbl hbA hP.2 (2 + i) (by omega) (by omega) dL_law_393 ?_
  refine sx_cvI (As := [.int (xs (1 + i)), .int (xs (2 + i))]) (rest := [.int r1]) X (mX7_eventOf l (n := n) hwf.2.1 hwf.1 h91 h92) gL_law_X7_eventOf rfl yv_X7_eventOf ⟨Nat.le_of_ble_eq_true rfl, Nat.le_of_ble_eq_true rfl⟩ h91 (by decide) rfl rfl hl.1 rfl (Nat.le_of_ble_eq_true rfl) dL_law_394 ⟨Nat.le_of_ble_eq_true rfl, Nat.le_of_ble_eq_true rfl⟩ hs rfl hP (fun r2 F2 H2 l2 hp hP => ?_)
  obtain ⟨rfl, hr2⟩ := hp
  refine lv_icmp_eq X.1.1 X.1.2.1 (tgt := 761) dL_law_397 (by decide) (fun _ => ?_) (fun q => absurd (hr1.symm.trans hr2) q)
  exact kk _ _ _ (⟨w, jo, ik, A, n, en, len, m, hJ⟩) hP
set_option maxHeartbeats 800000 in
set_option maxRecDepth 100000 in
theorem law_10 {G : sx_G} {pp : Program} {l : Launch} {ee : Env} {ss : State} {mm : MethodId} {below : List Frame} {meth : Method} {kc : Code} {nm : String} {b K i : Nat} {xs : Nat → Int32} {Q : State → Prop} (X : sx_X G pp mm kc cL_law 4 ss #[Value.ref b] wsL_law RL meth (some .boolean) nm) (hs : ss.heap.size = sx_b G + 0) (hX : va_X b K xs ss ss.heap) (hbl : b < ss.heap.size) (hi : i + 4 ≤ K) (hK : K ≤ 2048) {F : Nat → va_E} {H : Heap} {lv : List Loc} {ls : Array Slot} (hI : LI G F) (hP : sx_H G 97 F ss.heap H lv) (hl : lv_has ls 4 [(0, .ref b), (1, rf G 0), (2, rf G 91), (3, .int (nI i))]) (kk : ∀ (F1 : Nat → va_E) (H1 : Heap) (l1 : List Loc), LI G F1 → sx_H G 97 F1 ss.heap H1 l1 → W pp l ee room_1 ss mm #[Value.ref b] below meth kc H1 l1 97 20000 Q (F0 mm 761 ls [])) : W pp l ee room_1 ss mm #[Value.ref b] below meth kc H lv 97 20000 Q (F0 mm 402 ls []) := by
  have hbA : ¬ sx_A G b := by show ¬ sx_b G ≤ b; omega
  obtain ⟨w, jo, ik, A, n, en, len, m, hJ⟩ := hI
  obtain ⟨h0, hW, ⟨im, h28, him⟩, hS0, hS1, hIm, h83, ⟨dv, iv, wv, rv, pv, h84⟩, ⟨jl, jp, h85, h86, h87, hBk⟩, ⟨lt, h88, hlt⟩, ⟨lw, tb, h89, h90⟩, ⟨xl, z5, z6, z7, z8, z9, z10, z11, h91⟩, h92, h93, h94, ⟨ol, ot, h95, h96⟩, hwf, hHO, hA, hen, hjo⟩ := id hJ
  refine lv_aload_n X.1.1 X.1.2.1 dL_law_402 rfl (lv_at hl 1 rfl) ?_
  refine lv_aload_n X.1.1 X.1.2.1 dL_law_403 rfl (lv_at hl 0 rfl) ?_
  refine lv_iload_n X.1.1 X.1.2.1 dL_law_404 rfl (lv_at hl 3 rfl) ?_
  refine lv_iconst (v := nI 1) X.1.1 X.1.2.1 dL_law_405 (by decide) ?_
  refine sx_addN X (1 + i) (by omega) dL_law_406 ?_
  refine sx_sld X hX hbl hbA hP.2 (1 + i) (by omega) (by omega) dL_law_407 ?_
  refine sx_cvI (As := [.int (xs (1 + i))]) (rest := []) X (mX6_holder l hW hwf h0) gL_law_X6_holder rfl yv_X6_holder ⟨Nat.le_of_ble_eq_true rfl, Nat.le_of_ble_eq_true rfl⟩ h0 (by decide) rfl rfl hl.1 rfl (Nat.le_of_ble_eq_true rfl) dL_law_408 ⟨Nat.le_of_ble_eq_true rfl, Nat.le_of_ble_eq_true rfl⟩ hs rfl hP (fun r1 F1 H1 l1 hp hP => ?_)
  obtain ⟨rfl, hr1⟩ := hp
  refine lv_aload_n X.1.1 X.1.2.1 dL_law_411 rfl (lv_at hl 2 rfl) ?_
  refine lv_aload_n X.1.1 X.1.2.1 dL_law_412 rfl (lv_at hl 0 rfl) ?_
  refine lv_iload_n X.1.1 X.1.2.1 dL_law_413 rfl (lv_at hl 3 rfl) ?_
  refine lv_iconst (v := nI 1) X.1.1 X.1.2.1 dL_law_414 (by decide) ?_
  refine sx_addN X (1 + i) (by omega) dL_law_415 ?_
  refine sx_sld X hX hbl hbA hP.2 (1 + i) (by omega) (by omega) dL_law_416 ?_
  refine sx_cvI (As := [.int (xs (1 + i))]) (rest := [.int r1]) X (mX7_holder l h91 h92) gL_law_X7_holder rfl yv_X7_holder ⟨Nat.le_of_ble_eq_true rfl, Nat.le_of_ble_eq_true rfl⟩ h91 (by decide) rfl rfl hl.1 rfl (Nat.le_of_ble_eq_true rfl) dL_law_417 ⟨Nat.le_of_ble_eq_true rfl, Nat.le_of_ble_eq_true rfl⟩ hs rfl hP (fun r2 F2 H2 l2 hp hP => ?_)
  obtain ⟨rfl, hr2⟩ := hp
  refine lv_icmp_eq X.1.1 X.1.2.1 (tgt := 761) dL_law_420 (by decide) (fun _ => ?_) (fun q => absurd (hr1.symm.trans hr2) q)
  exact kk _ _ _ (⟨w, jo, ik, A, n, en, len, m, hJ⟩) hP
set_option maxHeartbeats 800000 in
set_option maxRecDepth 100000 in
theorem law_11 {G : sx_G} {pp : Program} {l : Launch} {ee : Env} {ss : State} {mm : MethodId} {below : List Frame} {meth : Method} {kc : Code} {nm : String} {b K i : Nat} {xs : Nat → Int32} {Q : State → Prop} (X : sx_X G pp mm kc cL_law 4 ss #[Value.ref b] wsL_law RL meth (some .boolean) nm) (hs : ss.heap.size = sx_b G + 0) (hX : va_X b K xs ss ss.heap) (hbl : b < ss.heap.size) (hi : i + 4 ≤ K) (hK : K ≤ 2048) {F : Nat → va_E} {H : Heap} {lv : List Loc} {ls : Array Slot} (hI : LI G F) (hP : sx_H G 97 F ss.heap H lv) (hl : lv_has ls 4 [(0, .ref b), (1, rf G 0), (2, rf G 91), (3, .int (nI i))]) (kk : ∀ (F1 : Nat → va_E) (H1 : Heap) (l1 : List Loc), LI G F1 → sx_H G 97 F1 ss.heap H1 l1 → W pp l ee room_1 ss mm #[Value.ref b] below meth kc H1 l1 97 20000 Q (F0 mm 761 ls [])) : W pp l ee room_1 ss mm #[Value.ref b] below meth kc H lv 97 20000 Q (F0 mm 425 ls []) := by
  have hbA : ¬ sx_A G b := by show ¬ sx_b G ≤ b; omega
  obtain ⟨w, jo, ik, A, n, en, len, m, hJ⟩ := hI
  obtain ⟨h0, hW, ⟨im, h28, him⟩, hS0, hS1, hIm, h83, ⟨dv, iv, wv, rv, pv, h84⟩, ⟨jl, jp, h85, h86, h87, hBk⟩, ⟨lt, h88, hlt⟩, ⟨lw, tb, h89, h90⟩, ⟨xl, z5, z6, z7, z8, z9, z10, z11, h91⟩, h92, h93, h94, ⟨ol, ot, h95, h96⟩, hwf, hHO, hA, hen, hjo⟩ := id hJ
  refine lv_aload_n X.1.1 X.1.2.1 dL_law_425 rfl (lv_at hl 1 rfl) ?_
  refine lv_aload_n X.1.1 X.1.2.1 dL_law_426 rfl (lv_at hl 0 rfl) ?_
  refine lv_iload_n X.1.1 X.1.2.1 dL_law_427 rfl (lv_at hl 3 rfl) ?_
  refine lv_iconst (v := nI 1) X.1.1 X.1.2.1 dL_law_428 (by decide) ?_
  refine sx_addN X (1 + i) (by omega) dL_law_429 ?_
  refine sx_sld X hX hbl hbA hP.2 (1 + i) (by omega) (by omega) dL_law_430 ?_
  refine lv_aload_n X.1.1 X.1.2.1 dL_law_431 rfl (lv_at hl 0 rfl) ?_
  refine lv_iload_n X.1.1 X.1.2.1 dL_law_432 rfl (lv_at hl 3 rfl) ?_
  refine lv_iconst (v := nI 2) X.1.1 X.1.2.1 dL_law_433 (by decide) ?_
  refine sx_addN X (2 + i) (by omega) dL_law_434 ?_
  refine sx_sld X hX hbl hbA hP.2 (2 + i) (by omega) (by omega) dL_law_435 ?_
  refine sx_cvI (As := [.int (xs (1 + i)), .int (xs (2 + i))]) (rest := []) X (mX6_journal l hen hBk h0 h84 h85 h86 h87) gL_law_X6_journal rfl yv_X6_journal ⟨Nat.le_of_ble_eq_true rfl, Nat.le_of_ble_eq_true rfl⟩ h0 (by decide) rfl rfl hl.1 rfl (Nat.le_of_ble_eq_true rfl) dL_law_436 ⟨Nat.le_of_ble_eq_true rfl, Nat.le_of_ble_eq_true rfl⟩ hs rfl hP (fun r1 F1 H1 l1 hp hP => ?_)
  obtain ⟨rfl, hr1⟩ := hp
  refine lv_aload_n X.1.1 X.1.2.1 dL_law_439 rfl (lv_at hl 2 rfl) ?_
  refine lv_aload_n X.1.1 X.1.2.1 dL_law_440 rfl (lv_at hl 0 rfl) ?_
  refine lv_iload_n X.1.1 X.1.2.1 dL_law_441 rfl (lv_at hl 3 rfl) ?_
  refine lv_iconst (v := nI 1) X.1.1 X.1.2.1 dL_law_442 (by decide) ?_
  refine sx_addN X (1 + i) (by omega) dL_law_443 ?_
  refine sx_sld X hX hbl hbA hP.2 (1 + i) (by omega) (by omega) dL_law_444 ?_
  refine lv_aload_n X.1.1 X.1.2.1 dL_law_445 rfl (lv_at hl 0 rfl) ?_
  refine lv_iload_n X.1.1 X.1.2.1 dL_law_446 rfl (lv_at hl 3 rfl) ?_
  refine lv_iconst (v := nI 2) X.1.1 X.1.2.1 dL_law_447 (by decide) ?_
  refine sx_addN X (2 + i) (by omega) dL_law_448 ?_
  refine sx_sld X hX hbl hbA hP.2 (2 + i) (by omega) (by omega) dL_law_449 ?_
  refine sx_cvI (As := [.int (xs (1 + i)), .int (xs (2 + i))]) (rest := [.int r1]) X (mX7_journal l hen h91 h94) gL_law_X7_journal rfl yv_X7_journal ⟨Nat.le_of_ble_eq_true rfl, Nat.le_of_ble_eq_true rfl⟩ h91 (by decide) rfl rfl hl.1 rfl (Nat.le_of_ble_eq_true rfl) dL_law_450 ⟨Nat.le_of_ble_eq_true rfl, Nat.le_of_ble_eq_true rfl⟩ hs rfl hP (fun r2 F2 H2 l2 hp hP => ?_)
  obtain ⟨rfl, hr2⟩ := hp
  refine lv_icmp_eq X.1.1 X.1.2.1 (tgt := 761) dL_law_453 (by decide) (fun _ => ?_) (fun q => absurd (hr1.symm.trans hr2) q)
  exact kk _ _ _ (⟨w, jo, ik, A, n, en, len, m, hJ⟩) hP
set_option maxHeartbeats 800000 in
set_option maxRecDepth 100000 in
theorem law_12 {G : sx_G} {pp : Program} {l : Launch} {ee : Env} {ss : State} {mm : MethodId} {below : List Frame} {meth : Method} {kc : Code} {nm : String} {b K i : Nat} {xs : Nat → Int32} {Q : State → Prop} (X : sx_X G pp mm kc cL_law 4 ss #[Value.ref b] wsL_law RL meth (some .boolean) nm) (hs : ss.heap.size = sx_b G + 0) (hX : va_X b K xs ss ss.heap) (hbl : b < ss.heap.size) (hi : i + 4 ≤ K) (hK : K ≤ 2048) {F : Nat → va_E} {H : Heap} {lv : List Loc} {ls : Array Slot} (hI : LI G F) (hP : sx_H G 97 F ss.heap H lv) (hl : lv_has ls 4 [(0, .ref b), (1, rf G 0), (2, rf G 91), (3, .int (nI i))]) (kk : ∀ (F1 : Nat → va_E) (H1 : Heap) (l1 : List Loc), LI G F1 → sx_H G 97 F1 ss.heap H1 l1 → W pp l ee room_1 ss mm #[Value.ref b] below meth kc H1 l1 97 20000 Q (F0 mm 761 ls [])) : W pp l ee room_1 ss mm #[Value.ref b] below meth kc H lv 97 20000 Q (F0 mm 458 ls []) := by
  have hbA : ¬ sx_A G b := by show ¬ sx_b G ≤ b; omega
  obtain ⟨w, jo, ik, A, n, en, len, m, hJ⟩ := hI
  obtain ⟨h0, hW, ⟨im, h28, him⟩, hS0, hS1, hIm, h83, ⟨dv, iv, wv, rv, pv, h84⟩, ⟨jl, jp, h85, h86, h87, hBk⟩, ⟨lt, h88, hlt⟩, ⟨lw, tb, h89, h90⟩, ⟨xl, z5, z6, z7, z8, z9, z10, z11, h91⟩, h92, h93, h94, ⟨ol, ot, h95, h96⟩, hwf, hHO, hA, hen, hjo⟩ := id hJ
  refine lv_aload_n X.1.1 X.1.2.1 dL_law_458 rfl (lv_at hl 1 rfl) ?_
  refine lv_aload_n X.1.1 X.1.2.1 dL_law_459 rfl (lv_at hl 0 rfl) ?_
  refine lv_iload_n X.1.1 X.1.2.1 dL_law_460 rfl (lv_at hl 3 rfl) ?_
  refine lv_iconst (v := nI 1) X.1.1 X.1.2.1 dL_law_461 (by decide) ?_
  refine sx_addN X (1 + i) (by omega) dL_law_462 ?_
  refine sx_sld X hX hbl hbA hP.2 (1 + i) (by omega) (by omega) dL_law_463 ?_
  refine lv_aload_n X.1.1 X.1.2.1 dL_law_464 rfl (lv_at hl 0 rfl) ?_
  refine lv_iload_n X.1.1 X.1.2.1 dL_law_465 rfl (lv_at hl 3 rfl) ?_
  refine lv_iconst (v := nI 2) X.1.1 X.1.2.1 dL_law_466 (by decide) ?_
  refine sx_addN X (2 + i) (by omega) dL_law_467 ?_
  refine sx_sld X hX hbl hbA hP.2 (2 + i) (by omega) (by omega) dL_law_468 ?_
  refine sx_cvI (As := [.int (xs (1 + i)), .int (xs (2 + i))]) (rest := []) X (mX6_ahead l hW hwf h0) gL_law_X6_ahead rfl yv_X6_ahead ⟨Nat.le_of_ble_eq_true rfl, Nat.le_of_ble_eq_true rfl⟩ h0 (by decide) rfl rfl hl.1 rfl (Nat.le_of_ble_eq_true rfl) dL_law_469 ⟨Nat.le_of_ble_eq_true rfl, Nat.le_of_ble_eq_true rfl⟩ hs rfl hP (fun r1 F1 H1 l1 hp hP => ?_)
  obtain ⟨rfl, hr1⟩ := hp
  refine lv_aload_n X.1.1 X.1.2.1 dL_law_472 rfl (lv_at hl 2 rfl) ?_
  refine lv_aload_n X.1.1 X.1.2.1 dL_law_473 rfl (lv_at hl 0 rfl) ?_
  refine lv_iload_n X.1.1 X.1.2.1 dL_law_474 rfl (lv_at hl 3 rfl) ?_
  refine lv_iconst (v := nI 1) X.1.1 X.1.2.1 dL_law_475 (by decide) ?_
  refine sx_addN X (1 + i) (by omega) dL_law_476 ?_
  refine sx_sld X hX hbl hbA hP.2 (1 + i) (by omega) (by omega) dL_law_477 ?_
  refine lv_aload_n X.1.1 X.1.2.1 dL_law_478 rfl (lv_at hl 0 rfl) ?_
  refine lv_iload_n X.1.1 X.1.2.1 dL_law_479 rfl (lv_at hl 3 rfl) ?_
  refine lv_iconst (v := nI 2) X.1.1 X.1.2.1 dL_law_480 (by decide) ?_
  refine sx_addN X (2 + i) (by omega) dL_law_481 ?_
  refine sx_sld X hX hbl hbA hP.2 (2 + i) (by omega) (by omega) dL_law_482 ?_
  refine sx_cvI (As := [.int (xs (1 + i)), .int (xs (2 + i))]) (rest := [.int r1]) X (mX7_ahead l (n := n) hwf.2.1 hwf.1 hwf.ev h91 h92) gL_law_X7_ahead rfl yv_X7_ahead ⟨Nat.le_of_ble_eq_true rfl, Nat.le_of_ble_eq_true rfl⟩ h91 (by decide) rfl rfl hl.1 rfl (Nat.le_of_ble_eq_true rfl) dL_law_483 ⟨Nat.le_of_ble_eq_true rfl, Nat.le_of_ble_eq_true rfl⟩ hs rfl hP (fun r2 F2 H2 l2 hp hP => ?_)
  obtain ⟨rfl, hr2⟩ := hp
  refine lv_icmp_eq X.1.1 X.1.2.1 (tgt := 761) dL_law_486 (by decide) (fun _ => ?_) (fun q => absurd (hr1.symm.trans hr2) q)
  exact kk _ _ _ (⟨w, jo, ik, A, n, en, len, m, hJ⟩) hP
set_option maxHeartbeats 800000 in
set_option maxRecDepth 100000 in
theorem law_13 {G : sx_G} {pp : Program} {l : Launch} {ee : Env} {ss : State} {mm : MethodId} {below : List Frame} {meth : Method} {kc : Code} {nm : String} {b K i : Nat} {xs : Nat → Int32} {Q : State → Prop} (X : sx_X G pp mm kc cL_law 4 ss #[Value.ref b] wsL_law RL meth (some .boolean) nm) (hs : ss.heap.size = sx_b G + 0) (hX : va_X b K xs ss ss.heap) (hbl : b < ss.heap.size) (hi : i + 4 ≤ K) (hK : K ≤ 2048) {F : Nat → va_E} {H : Heap} {lv : List Loc} {ls : Array Slot} (hI : LI G F) (hP : sx_H G 97 F ss.heap H lv) (hl : lv_has ls 4 [(0, .ref b), (1, rf G 0), (2, rf G 91), (3, .int (nI i))]) (kk : ∀ (F1 : Nat → va_E) (H1 : Heap) (l1 : List Loc), LI G F1 → sx_H G 97 F1 ss.heap H1 l1 → W pp l ee room_1 ss mm #[Value.ref b] below meth kc H1 l1 97 20000 Q (F0 mm 761 ls [])) : W pp l ee room_1 ss mm #[Value.ref b] below meth kc H lv 97 20000 Q (F0 mm 491 ls []) := by
  have hbA : ¬ sx_A G b := by show ¬ sx_b G ≤ b; omega
  obtain ⟨w, jo, ik, A, n, en, len, m, hJ⟩ := hI
  obtain ⟨h0, hW, ⟨im, h28, him⟩, hS0, hS1, hIm, h83, ⟨dv, iv, wv, rv, pv, h84⟩, ⟨jl, jp, h85, h86, h87, hBk⟩, ⟨lt, h88, hlt⟩, ⟨lw, tb, h89, h90⟩, ⟨xl, z5, z6, z7, z8, z9, z10, z11, h91⟩, h92, h93, h94, ⟨ol, ot, h95, h96⟩, hwf, hHO, hA, hen, hjo⟩ := id hJ
  refine lv_aload_n X.1.1 X.1.2.1 dL_law_491 rfl (lv_at hl 1 rfl) ?_
  refine lv_aload_n X.1.1 X.1.2.1 dL_law_492 rfl (lv_at hl 0 rfl) ?_
  refine lv_iload_n X.1.1 X.1.2.1 dL_law_493 rfl (lv_at hl 3 rfl) ?_
  refine lv_iconst (v := nI 1) X.1.1 X.1.2.1 dL_law_494 (by decide) ?_
  refine sx_addN X (1 + i) (by omega) dL_law_495 ?_
  refine sx_sld X hX hbl hbA hP.2 (1 + i) (by omega) (by omega) dL_law_496 ?_
  refine lv_aload_n X.1.1 X.1.2.1 dL_law_497 rfl (lv_at hl 0 rfl) ?_
  refine lv_iload_n X.1.1 X.1.2.1 dL_law_498 rfl (lv_at hl 3 rfl) ?_
  refine lv_iconst (v := nI 2) X.1.1 X.1.2.1 dL_law_499 (by decide) ?_
  refine sx_addN X (2 + i) (by omega) dL_law_500 ?_
  refine sx_sld X hX hbl hbA hP.2 (2 + i) (by omega) (by omega) dL_law_501 ?_
  refine sx_cvI (As := [.int (xs (1 + i)), .int (xs (2 + i))]) (rest := []) X (mX6_races l hW hwf h0) gL_law_X6_races rfl yv_X6_races ⟨Nat.le_of_ble_eq_true rfl, Nat.le_of_ble_eq_true rfl⟩ h0 (by decide) rfl rfl hl.1 rfl (Nat.le_of_ble_eq_true rfl) dL_law_502 ⟨Nat.le_of_ble_eq_true rfl, Nat.le_of_ble_eq_true rfl⟩ hs rfl hP (fun r1 F1 H1 l1 hp hP => ?_)
  obtain ⟨rfl, hr1⟩ := hp
  refine lv_aload_n X.1.1 X.1.2.1 dL_law_505 rfl (lv_at hl 2 rfl) ?_
  refine lv_aload_n X.1.1 X.1.2.1 dL_law_506 rfl (lv_at hl 0 rfl) ?_
  refine lv_iload_n X.1.1 X.1.2.1 dL_law_507 rfl (lv_at hl 3 rfl) ?_
  refine lv_iconst (v := nI 1) X.1.1 X.1.2.1 dL_law_508 (by decide) ?_
  refine sx_addN X (1 + i) (by omega) dL_law_509 ?_
  refine sx_sld X hX hbl hbA hP.2 (1 + i) (by omega) (by omega) dL_law_510 ?_
  refine lv_aload_n X.1.1 X.1.2.1 dL_law_511 rfl (lv_at hl 0 rfl) ?_
  refine lv_iload_n X.1.1 X.1.2.1 dL_law_512 rfl (lv_at hl 3 rfl) ?_
  refine lv_iconst (v := nI 2) X.1.1 X.1.2.1 dL_law_513 (by decide) ?_
  refine sx_addN X (2 + i) (by omega) dL_law_514 ?_
  refine sx_sld X hX hbl hbA hP.2 (2 + i) (by omega) (by omega) dL_law_515 ?_
  refine sx_cvI (As := [.int (xs (1 + i)), .int (xs (2 + i))]) (rest := [.int r1]) X (mX7_races l (n := n) hwf.2.1 hwf.1 hwf.ev h91 h92) gL_law_X7_races rfl yv_X7_races ⟨Nat.le_of_ble_eq_true rfl, Nat.le_of_ble_eq_true rfl⟩ h91 (by decide) rfl rfl hl.1 rfl (Nat.le_of_ble_eq_true rfl) dL_law_516 ⟨Nat.le_of_ble_eq_true rfl, Nat.le_of_ble_eq_true rfl⟩ hs rfl hP (fun r2 F2 H2 l2 hp hP => ?_)
  obtain ⟨rfl, hr2⟩ := hp
  refine lv_icmp_eq X.1.1 X.1.2.1 (tgt := 761) dL_law_519 (by decide) (fun _ => ?_) (fun q => absurd (hr1.symm.trans hr2) q)
  exact kk _ _ _ (⟨w, jo, ik, A, n, en, len, m, hJ⟩) hP
set_option maxHeartbeats 800000 in
set_option maxRecDepth 100000 in
theorem law_14 {G : sx_G} {pp : Program} {l : Launch} {ee : Env} {ss : State} {mm : MethodId} {below : List Frame} {meth : Method} {kc : Code} {nm : String} {b K i : Nat} {xs : Nat → Int32} {Q : State → Prop} (X : sx_X G pp mm kc cL_law 4 ss #[Value.ref b] wsL_law RL meth (some .boolean) nm) (hs : ss.heap.size = sx_b G + 0) (hX : va_X b K xs ss ss.heap) (hbl : b < ss.heap.size) (hi : i + 4 ≤ K) (hK : K ≤ 2048) {F : Nat → va_E} {H : Heap} {lv : List Loc} {ls : Array Slot} (hI : LI G F) (hP : sx_H G 97 F ss.heap H lv) (hl : lv_has ls 4 [(0, .ref b), (1, rf G 0), (2, rf G 91), (3, .int (nI i))]) (kk : ∀ (F1 : Nat → va_E) (H1 : Heap) (l1 : List Loc), LI G F1 → sx_H G 97 F1 ss.heap H1 l1 → W pp l ee room_1 ss mm #[Value.ref b] below meth kc H1 l1 97 20000 Q (F0 mm 761 ls [])) : W pp l ee room_1 ss mm #[Value.ref b] below meth kc H lv 97 20000 Q (F0 mm 524 ls []) := by
  have hbA : ¬ sx_A G b := by show ¬ sx_b G ≤ b; omega
  obtain ⟨w, jo, ik, A, n, en, len, m, hJ⟩ := hI
  obtain ⟨h0, hW, ⟨im, h28, him⟩, hS0, hS1, hIm, h83, ⟨dv, iv, wv, rv, pv, h84⟩, ⟨jl, jp, h85, h86, h87, hBk⟩, ⟨lt, h88, hlt⟩, ⟨lw, tb, h89, h90⟩, ⟨xl, z5, z6, z7, z8, z9, z10, z11, h91⟩, h92, h93, h94, ⟨ol, ot, h95, h96⟩, hwf, hHO, hA, hen, hjo⟩ := id hJ
  refine lv_aload_n X.1.1 X.1.2.1 dL_law_524 rfl (lv_at hl 1 rfl) ?_
  refine lv_aload_n X.1.1 X.1.2.1 dL_law_525 rfl (lv_at hl 0 rfl) ?_
  refine lv_iload_n X.1.1 X.1.2.1 dL_law_526 rfl (lv_at hl 3 rfl) ?_
  refine lv_iconst (v := nI 1) X.1.1 X.1.2.1 dL_law_527 (by decide) ?_
  refine sx_addN X (1 + i) (by omega) dL_law_528 ?_
  refine sx_sld X hX hbl hbA hP.2 (1 + i) (by omega) (by omega) dL_law_529 ?_
  refine lv_aload_n X.1.1 X.1.2.1 dL_law_530 rfl (lv_at hl 0 rfl) ?_
  refine lv_iload_n X.1.1 X.1.2.1 dL_law_531 rfl (lv_at hl 3 rfl) ?_
  refine lv_iconst (v := nI 2) X.1.1 X.1.2.1 dL_law_532 (by decide) ?_
  refine sx_addN X (2 + i) (by omega) dL_law_533 ?_
  refine sx_sld X hX hbl hbA hP.2 (2 + i) (by omega) (by omega) dL_law_534 ?_
  refine lv_aload_n X.1.1 X.1.2.1 dL_law_535 rfl (lv_at hl 0 rfl) ?_
  refine lv_iload_n X.1.1 X.1.2.1 dL_law_536 rfl (lv_at hl 3 rfl) ?_
  refine lv_iconst (v := nI 3) X.1.1 X.1.2.1 dL_law_537 (by decide) ?_
  refine sx_addN X (3 + i) (by omega) dL_law_538 ?_
  refine sx_sld X hX hbl hbA hP.2 (3 + i) (by omega) (by omega) dL_law_539 ?_
  refine sx_cvI (As := [.int (xs (1 + i)), .int (xs (2 + i)), .int (xs (3 + i))]) (rest := []) X (mX6_race l hW hwf h0) gL_law_X6_race rfl yv_X6_race ⟨Nat.le_of_ble_eq_true rfl, Nat.le_of_ble_eq_true rfl⟩ h0 (by decide) rfl rfl hl.1 rfl (Nat.le_of_ble_eq_true rfl) dL_law_540 ⟨Nat.le_of_ble_eq_true rfl, Nat.le_of_ble_eq_true rfl⟩ hs rfl hP (fun r1 F1 H1 l1 hp hP => ?_)
  obtain ⟨rfl, hr1⟩ := hp
  refine lv_aload_n X.1.1 X.1.2.1 dL_law_543 rfl (lv_at hl 2 rfl) ?_
  refine lv_aload_n X.1.1 X.1.2.1 dL_law_544 rfl (lv_at hl 0 rfl) ?_
  refine lv_iload_n X.1.1 X.1.2.1 dL_law_545 rfl (lv_at hl 3 rfl) ?_
  refine lv_iconst (v := nI 1) X.1.1 X.1.2.1 dL_law_546 (by decide) ?_
  refine sx_addN X (1 + i) (by omega) dL_law_547 ?_
  refine sx_sld X hX hbl hbA hP.2 (1 + i) (by omega) (by omega) dL_law_548 ?_
  refine lv_aload_n X.1.1 X.1.2.1 dL_law_549 rfl (lv_at hl 0 rfl) ?_
  refine lv_iload_n X.1.1 X.1.2.1 dL_law_550 rfl (lv_at hl 3 rfl) ?_
  refine lv_iconst (v := nI 2) X.1.1 X.1.2.1 dL_law_551 (by decide) ?_
  refine sx_addN X (2 + i) (by omega) dL_law_552 ?_
  refine sx_sld X hX hbl hbA hP.2 (2 + i) (by omega) (by omega) dL_law_553 ?_
  refine lv_aload_n X.1.1 X.1.2.1 dL_law_554 rfl (lv_at hl 0 rfl) ?_
  refine lv_iload_n X.1.1 X.1.2.1 dL_law_555 rfl (lv_at hl 3 rfl) ?_
  refine lv_iconst (v := nI 3) X.1.1 X.1.2.1 dL_law_556 (by decide) ?_
  refine sx_addN X (3 + i) (by omega) dL_law_557 ?_
  refine sx_sld X hX hbl hbA hP.2 (3 + i) (by omega) (by omega) dL_law_558 ?_
  refine sx_cvI (As := [.int (xs (1 + i)), .int (xs (2 + i)), .int (xs (3 + i))]) (rest := [.int r1]) X (mX7_race l (n := n) hwf.2.1 hwf.1 hwf.ev h91 h92) gL_law_X7_race rfl yv_X7_race ⟨Nat.le_of_ble_eq_true rfl, Nat.le_of_ble_eq_true rfl⟩ h91 (by decide) rfl rfl hl.1 rfl (Nat.le_of_ble_eq_true rfl) dL_law_559 ⟨Nat.le_of_ble_eq_true rfl, Nat.le_of_ble_eq_true rfl⟩ hs rfl hP (fun r2 F2 H2 l2 hp hP => ?_)
  obtain ⟨rfl, hr2⟩ := hp
  refine lv_icmp_eq X.1.1 X.1.2.1 (tgt := 761) dL_law_562 (by decide) (fun _ => ?_) (fun q => absurd (race_same hr1 hr2) q)
  exact kk _ _ _ (⟨w, jo, ik, A, n, en, len, m, hJ⟩) hP
set_option maxHeartbeats 800000 in
set_option maxRecDepth 100000 in
theorem law_15 {G : sx_G} {pp : Program} {l : Launch} {ee : Env} {ss : State} {mm : MethodId} {below : List Frame} {meth : Method} {kc : Code} {nm : String} {b K i : Nat} {xs : Nat → Int32} {Q : State → Prop} (X : sx_X G pp mm kc cL_law 4 ss #[Value.ref b] wsL_law RL meth (some .boolean) nm) (hs : ss.heap.size = sx_b G + 0) (hX : va_X b K xs ss ss.heap) (hbl : b < ss.heap.size) (hi : i + 4 ≤ K) (hK : K ≤ 2048) {F : Nat → va_E} {H : Heap} {lv : List Loc} {ls : Array Slot} (hI : LI G F) (hP : sx_H G 97 F ss.heap H lv) (hl : lv_has ls 4 [(0, .ref b), (1, rf G 0), (2, rf G 91), (3, .int (nI i))]) (kk : ∀ (F1 : Nat → va_E) (H1 : Heap) (l1 : List Loc), LI G F1 → sx_H G 97 F1 ss.heap H1 l1 → W pp l ee room_1 ss mm #[Value.ref b] below meth kc H1 l1 97 20000 Q (F0 mm 761 ls [])) : W pp l ee room_1 ss mm #[Value.ref b] below meth kc H lv 97 20000 Q (F0 mm 567 ls []) := by
  have hbA : ¬ sx_A G b := by show ¬ sx_b G ≤ b; omega
  obtain ⟨w, jo, ik, A, n, en, len, m, hJ⟩ := hI
  obtain ⟨h0, hW, ⟨im, h28, him⟩, hS0, hS1, hIm, h83, ⟨dv, iv, wv, rv, pv, h84⟩, ⟨jl, jp, h85, h86, h87, hBk⟩, ⟨lt, h88, hlt⟩, ⟨lw, tb, h89, h90⟩, ⟨xl, z5, z6, z7, z8, z9, z10, z11, h91⟩, h92, h93, h94, ⟨ol, ot, h95, h96⟩, hwf, hHO, hA, hen, hjo⟩ := id hJ
  refine lv_aload_n X.1.1 X.1.2.1 dL_law_567 rfl (lv_at hl 1 rfl) ?_
  refine lv_aload_n X.1.1 X.1.2.1 dL_law_568 rfl (lv_at hl 0 rfl) ?_
  refine lv_iload_n X.1.1 X.1.2.1 dL_law_569 rfl (lv_at hl 3 rfl) ?_
  refine lv_iconst (v := nI 1) X.1.1 X.1.2.1 dL_law_570 (by decide) ?_
  refine sx_addN X (1 + i) (by omega) dL_law_571 ?_
  refine sx_sld X hX hbl hbA hP.2 (1 + i) (by omega) (by omega) dL_law_572 ?_
  refine lv_aload_n X.1.1 X.1.2.1 dL_law_573 rfl (lv_at hl 0 rfl) ?_
  refine lv_iload_n X.1.1 X.1.2.1 dL_law_574 rfl (lv_at hl 3 rfl) ?_
  refine lv_iconst (v := nI 2) X.1.1 X.1.2.1 dL_law_575 (by decide) ?_
  refine sx_addN X (2 + i) (by omega) dL_law_576 ?_
  refine sx_sld X hX hbl hbA hP.2 (2 + i) (by omega) (by omega) dL_law_577 ?_
  refine sx_cvI (As := [.int (xs (1 + i)), .int (xs (2 + i))]) (rest := []) X (mX6_cell l hW hwf h0) gL_law_X6_cell rfl yv_X6_cell ⟨Nat.le_of_ble_eq_true rfl, Nat.le_of_ble_eq_true rfl⟩ h0 (by decide) rfl rfl hl.1 rfl (Nat.le_of_ble_eq_true rfl) dL_law_578 ⟨Nat.le_of_ble_eq_true rfl, Nat.le_of_ble_eq_true rfl⟩ hs rfl hP (fun r1 F1 H1 l1 hp hP => ?_)
  obtain ⟨rfl, hr1⟩ := hp
  refine lv_aload_n X.1.1 X.1.2.1 dL_law_581 rfl (lv_at hl 2 rfl) ?_
  refine lv_aload_n X.1.1 X.1.2.1 dL_law_582 rfl (lv_at hl 0 rfl) ?_
  refine lv_iload_n X.1.1 X.1.2.1 dL_law_583 rfl (lv_at hl 3 rfl) ?_
  refine lv_iconst (v := nI 1) X.1.1 X.1.2.1 dL_law_584 (by decide) ?_
  refine sx_addN X (1 + i) (by omega) dL_law_585 ?_
  refine sx_sld X hX hbl hbA hP.2 (1 + i) (by omega) (by omega) dL_law_586 ?_
  refine lv_aload_n X.1.1 X.1.2.1 dL_law_587 rfl (lv_at hl 0 rfl) ?_
  refine lv_iload_n X.1.1 X.1.2.1 dL_law_588 rfl (lv_at hl 3 rfl) ?_
  refine lv_iconst (v := nI 2) X.1.1 X.1.2.1 dL_law_589 (by decide) ?_
  refine sx_addN X (2 + i) (by omega) dL_law_590 ?_
  refine sx_sld X hX hbl hbA hP.2 (2 + i) (by omega) (by omega) dL_law_591 ?_
  refine sx_cvI (As := [.int (xs (1 + i)), .int (xs (2 + i))]) (rest := [.int r1]) X (mX7_cell l h91 h92) gL_law_X7_cell rfl yv_X7_cell ⟨Nat.le_of_ble_eq_true rfl, Nat.le_of_ble_eq_true rfl⟩ h91 (by decide) rfl rfl hl.1 rfl (Nat.le_of_ble_eq_true rfl) dL_law_592 ⟨Nat.le_of_ble_eq_true rfl, Nat.le_of_ble_eq_true rfl⟩ hs rfl hP (fun r2 F2 H2 l2 hp hP => ?_)
  obtain ⟨rfl, hr2⟩ := hp
  refine lv_icmp_eq X.1.1 X.1.2.1 (tgt := 761) dL_law_595 (by decide) (fun _ => ?_) (fun q => absurd (hr1.symm.trans hr2) q)
  exact kk _ _ _ (⟨w, jo, ik, A, n, en, len, m, hJ⟩) hP
set_option maxHeartbeats 800000 in
set_option maxRecDepth 100000 in
theorem law_16 {G : sx_G} {pp : Program} {l : Launch} {ee : Env} {ss : State} {mm : MethodId} {below : List Frame} {meth : Method} {kc : Code} {nm : String} {b K i : Nat} {xs : Nat → Int32} {Q : State → Prop} (X : sx_X G pp mm kc cL_law 4 ss #[Value.ref b] wsL_law RL meth (some .boolean) nm) (hs : ss.heap.size = sx_b G + 0) (hX : va_X b K xs ss ss.heap) (hbl : b < ss.heap.size) (hi : i + 4 ≤ K) (hK : K ≤ 2048) {F : Nat → va_E} {H : Heap} {lv : List Loc} {ls : Array Slot} (hI : LI G F) (hP : sx_H G 97 F ss.heap H lv) (hl : lv_has ls 4 [(0, .ref b), (1, rf G 0), (2, rf G 91), (3, .int (nI i))]) (kk : ∀ (F1 : Nat → va_E) (H1 : Heap) (l1 : List Loc), LI G F1 → sx_H G 97 F1 ss.heap H1 l1 → W pp l ee room_1 ss mm #[Value.ref b] below meth kc H1 l1 97 20000 Q (F0 mm 761 ls [])) : W pp l ee room_1 ss mm #[Value.ref b] below meth kc H lv 97 20000 Q (F0 mm 600 ls []) := by
  have hbA : ¬ sx_A G b := by show ¬ sx_b G ≤ b; omega
  obtain ⟨w, jo, ik, A, n, en, len, m, hJ⟩ := hI
  obtain ⟨h0, hW, ⟨im, h28, him⟩, hS0, hS1, hIm, h83, ⟨dv, iv, wv, rv, pv, h84⟩, ⟨jl, jp, h85, h86, h87, hBk⟩, ⟨lt, h88, hlt⟩, ⟨lw, tb, h89, h90⟩, ⟨xl, z5, z6, z7, z8, z9, z10, z11, h91⟩, h92, h93, h94, ⟨ol, ot, h95, h96⟩, hwf, hHO, hA, hen, hjo⟩ := id hJ
  refine lv_aload_n X.1.1 X.1.2.1 dL_law_600 rfl (lv_at hl 1 rfl) ?_
  refine lv_aload_n X.1.1 X.1.2.1 dL_law_601 rfl (lv_at hl 0 rfl) ?_
  refine lv_iload_n X.1.1 X.1.2.1 dL_law_602 rfl (lv_at hl 3 rfl) ?_
  refine lv_iconst (v := nI 1) X.1.1 X.1.2.1 dL_law_603 (by decide) ?_
  refine sx_addN X (1 + i) (by omega) dL_law_604 ?_
  refine sx_sld X hX hbl hbA hP.2 (1 + i) (by omega) (by omega) dL_law_605 ?_
  refine lv_aload_n X.1.1 X.1.2.1 dL_law_606 rfl (lv_at hl 0 rfl) ?_
  refine lv_iload_n X.1.1 X.1.2.1 dL_law_607 rfl (lv_at hl 3 rfl) ?_
  refine lv_iconst (v := nI 2) X.1.1 X.1.2.1 dL_law_608 (by decide) ?_
  refine sx_addN X (2 + i) (by omega) dL_law_609 ?_
  refine sx_sld X hX hbl hbA hP.2 (2 + i) (by omega) (by omega) dL_law_610 ?_
  refine sx_cvI (As := [.int (xs (1 + i)), .int (xs (2 + i))]) (rest := []) X (mX6_shared l hW hwf h0) gL_law_X6_shared rfl yv_X6_shared ⟨Nat.le_of_ble_eq_true rfl, Nat.le_of_ble_eq_true rfl⟩ h0 (by decide) rfl rfl hl.1 rfl (Nat.le_of_ble_eq_true rfl) dL_law_611 ⟨Nat.le_of_ble_eq_true rfl, Nat.le_of_ble_eq_true rfl⟩ hs rfl hP (fun r1 F1 H1 l1 hp hP => ?_)
  obtain ⟨rfl, hr1⟩ := hp
  refine lv_aload_n X.1.1 X.1.2.1 dL_law_614 rfl (lv_at hl 2 rfl) ?_
  refine lv_aload_n X.1.1 X.1.2.1 dL_law_615 rfl (lv_at hl 0 rfl) ?_
  refine lv_iload_n X.1.1 X.1.2.1 dL_law_616 rfl (lv_at hl 3 rfl) ?_
  refine lv_iconst (v := nI 1) X.1.1 X.1.2.1 dL_law_617 (by decide) ?_
  refine sx_addN X (1 + i) (by omega) dL_law_618 ?_
  refine sx_sld X hX hbl hbA hP.2 (1 + i) (by omega) (by omega) dL_law_619 ?_
  refine lv_aload_n X.1.1 X.1.2.1 dL_law_620 rfl (lv_at hl 0 rfl) ?_
  refine lv_iload_n X.1.1 X.1.2.1 dL_law_621 rfl (lv_at hl 3 rfl) ?_
  refine lv_iconst (v := nI 2) X.1.1 X.1.2.1 dL_law_622 (by decide) ?_
  refine sx_addN X (2 + i) (by omega) dL_law_623 ?_
  refine sx_sld X hX hbl hbA hP.2 (2 + i) (by omega) (by omega) dL_law_624 ?_
  refine sx_cvI (As := [.int (xs (1 + i)), .int (xs (2 + i))]) (rest := [.int r1]) X (mX7_shared l h91 h92) gL_law_X7_shared rfl yv_X7_shared ⟨Nat.le_of_ble_eq_true rfl, Nat.le_of_ble_eq_true rfl⟩ h91 (by decide) rfl rfl hl.1 rfl (Nat.le_of_ble_eq_true rfl) dL_law_625 ⟨Nat.le_of_ble_eq_true rfl, Nat.le_of_ble_eq_true rfl⟩ hs rfl hP (fun r2 F2 H2 l2 hp hP => ?_)
  obtain ⟨rfl, hr2⟩ := hp
  refine lv_icmp_eq X.1.1 X.1.2.1 (tgt := 761) dL_law_628 (by decide) (fun _ => ?_) (fun q => absurd (hr1.symm.trans hr2) q)
  exact kk _ _ _ (⟨w, jo, ik, A, n, en, len, m, hJ⟩) hP
set_option maxHeartbeats 800000 in
set_option maxRecDepth 100000 in
theorem law_17 {G : sx_G} {pp : Program} {l : Launch} {ee : Env} {ss : State} {mm : MethodId} {below : List Frame} {meth : Method} {kc : Code} {nm : String} {b K i : Nat} {xs : Nat → Int32} {Q : State → Prop} (X : sx_X G pp mm kc cL_law 4 ss #[Value.ref b] wsL_law RL meth (some .boolean) nm) (hs : ss.heap.size = sx_b G + 0) (hX : va_X b K xs ss ss.heap) (hbl : b < ss.heap.size) (hi : i + 4 ≤ K) (hK : K ≤ 2048) {F : Nat → va_E} {H : Heap} {lv : List Loc} {ls : Array Slot} (hI : LI G F) (hP : sx_H G 97 F ss.heap H lv) (hl : lv_has ls 4 [(0, .ref b), (1, rf G 0), (2, rf G 91), (3, .int (nI i))]) (kk : ∀ (F1 : Nat → va_E) (H1 : Heap) (l1 : List Loc), LI G F1 → sx_H G 97 F1 ss.heap H1 l1 → W pp l ee room_1 ss mm #[Value.ref b] below meth kc H1 l1 97 20000 Q (F0 mm 761 ls [])) : W pp l ee room_1 ss mm #[Value.ref b] below meth kc H lv 97 20000 Q (F0 mm 633 ls []) := by
  have hbA : ¬ sx_A G b := by show ¬ sx_b G ≤ b; omega
  obtain ⟨w, jo, ik, A, n, en, len, m, hJ⟩ := hI
  obtain ⟨h0, hW, ⟨im, h28, him⟩, hS0, hS1, hIm, h83, ⟨dv, iv, wv, rv, pv, h84⟩, ⟨jl, jp, h85, h86, h87, hBk⟩, ⟨lt, h88, hlt⟩, ⟨lw, tb, h89, h90⟩, ⟨xl, z5, z6, z7, z8, z9, z10, z11, h91⟩, h92, h93, h94, ⟨ol, ot, h95, h96⟩, hwf, hHO, hA, hen, hjo⟩ := id hJ
  by_cases hz : xs (3 + i) = 0
  · refine lv_aload_n X.1.1 X.1.2.1 dL_law_633 rfl (lv_at hl 1 rfl) ?_
    refine lv_aload_n X.1.1 X.1.2.1 dL_law_634 rfl (lv_at hl 0 rfl) ?_
    refine lv_iload_n X.1.1 X.1.2.1 dL_law_635 rfl (lv_at hl 3 rfl) ?_
    refine lv_iconst (v := nI 1) X.1.1 X.1.2.1 dL_law_636 (by decide) ?_
    refine sx_addN X (1 + i) (by omega) dL_law_637 ?_
    refine sx_sld X hX hbl hbA hP.2 (1 + i) (by omega) (by omega) dL_law_638 ?_
    refine lv_aload_n X.1.1 X.1.2.1 dL_law_639 rfl (lv_at hl 0 rfl) ?_
    refine lv_iload_n X.1.1 X.1.2.1 dL_law_640 rfl (lv_at hl 3 rfl) ?_
    refine lv_iconst (v := nI 2) X.1.1 X.1.2.1 dL_law_641 (by decide) ?_
    refine sx_addN X (2 + i) (by omega) dL_law_642 ?_
    refine sx_sld X hX hbl hbA hP.2 (2 + i) (by omega) (by omega) dL_law_643 ?_
    refine lv_aload_n X.1.1 X.1.2.1 dL_law_644 rfl (lv_at hl 0 rfl) ?_
    refine lv_iload_n X.1.1 X.1.2.1 dL_law_645 rfl (lv_at hl 3 rfl) ?_
    refine lv_iconst (v := nI 3) X.1.1 X.1.2.1 dL_law_646 (by decide) ?_
    refine sx_addN X (3 + i) (by omega) dL_law_647 ?_
    refine sx_sld X hX hbl hbA hP.2 (3 + i) (by omega) (by omega) dL_law_648 ?_
    refine lv_if_eq X.1.1 X.1.2.1 (tgt := 656) dL_law_649 (by decide) (fun _ => ?_) (fun q => absurd hz q)
    refine lv_iconst (v := nI 0) X.1.1 X.1.2.1 dL_law_656 (by decide) ?_
    refine sx_cvI (As := [.int (xs (1 + i)), .int (xs (2 + i)), .int (nI 0)]) (rest := []) X (mX6_would l hW hwf (by decide) h0) gL_law_X6_would rfl yv_X6_would ⟨Nat.le_of_ble_eq_true rfl, Nat.le_of_ble_eq_true rfl⟩ h0 (by decide) rfl rfl hl.1 rfl (Nat.le_of_ble_eq_true rfl) dL_law_657 ⟨Nat.le_of_ble_eq_true rfl, Nat.le_of_ble_eq_true rfl⟩ hs rfl hP (fun r1 F1 H1 l1 hp hP => ?_)
    obtain ⟨rfl, hr1⟩ := hp
    refine lv_aload_n X.1.1 X.1.2.1 dL_law_660 rfl (lv_at hl 2 rfl) ?_
    refine lv_aload_n X.1.1 X.1.2.1 dL_law_661 rfl (lv_at hl 0 rfl) ?_
    refine lv_iload_n X.1.1 X.1.2.1 dL_law_662 rfl (lv_at hl 3 rfl) ?_
    refine lv_iconst (v := nI 1) X.1.1 X.1.2.1 dL_law_663 (by decide) ?_
    refine sx_addN X (1 + i) (by omega) dL_law_664 ?_
    refine sx_sld X hX hbl hbA hP.2 (1 + i) (by omega) (by omega) dL_law_665 ?_
    refine lv_aload_n X.1.1 X.1.2.1 dL_law_666 rfl (lv_at hl 0 rfl) ?_
    refine lv_iload_n X.1.1 X.1.2.1 dL_law_667 rfl (lv_at hl 3 rfl) ?_
    refine lv_iconst (v := nI 2) X.1.1 X.1.2.1 dL_law_668 (by decide) ?_
    refine sx_addN X (2 + i) (by omega) dL_law_669 ?_
    refine sx_sld X hX hbl hbA hP.2 (2 + i) (by omega) (by omega) dL_law_670 ?_
    refine lv_aload_n X.1.1 X.1.2.1 dL_law_671 rfl (lv_at hl 0 rfl) ?_
    refine lv_iload_n X.1.1 X.1.2.1 dL_law_672 rfl (lv_at hl 3 rfl) ?_
    refine lv_iconst (v := nI 3) X.1.1 X.1.2.1 dL_law_673 (by decide) ?_
    refine sx_addN X (3 + i) (by omega) dL_law_674 ?_
    refine sx_sld X hX hbl hbA hP.2 (3 + i) (by omega) (by omega) dL_law_675 ?_
    refine lv_if_eq X.1.1 X.1.2.1 (tgt := 683) dL_law_676 (by decide) (fun _ => ?_) (fun q => absurd hz q)
    refine lv_iconst (v := nI 0) X.1.1 X.1.2.1 dL_law_683 (by decide) ?_
    refine sx_cvI (As := [.int (xs (1 + i)), .int (xs (2 + i)), .int (nI 0)]) (rest := [.int r1]) X (mX7_would l (by decide) hwf.2.2.2.1 h91 h92) gL_law_X7_would rfl yv_X7_would ⟨Nat.le_of_ble_eq_true rfl, Nat.le_of_ble_eq_true rfl⟩ h91 (by decide) rfl rfl hl.1 rfl (Nat.le_of_ble_eq_true rfl) dL_law_684 ⟨Nat.le_of_ble_eq_true rfl, Nat.le_of_ble_eq_true rfl⟩ hs rfl hP (fun r2 F2 H2 l2 hp hP => ?_)
    obtain ⟨rfl, hr2⟩ := hp
    refine lv_icmp_eq X.1.1 X.1.2.1 (tgt := 761) dL_law_687 (by decide) (fun _ => ?_) (fun q => absurd (hr1.symm.trans hr2) q)
    exact kk _ _ _ (⟨w, jo, ik, A, n, en, len, m, hJ⟩) hP
  · refine lv_aload_n X.1.1 X.1.2.1 dL_law_633 rfl (lv_at hl 1 rfl) ?_
    refine lv_aload_n X.1.1 X.1.2.1 dL_law_634 rfl (lv_at hl 0 rfl) ?_
    refine lv_iload_n X.1.1 X.1.2.1 dL_law_635 rfl (lv_at hl 3 rfl) ?_
    refine lv_iconst (v := nI 1) X.1.1 X.1.2.1 dL_law_636 (by decide) ?_
    refine sx_addN X (1 + i) (by omega) dL_law_637 ?_
    refine sx_sld X hX hbl hbA hP.2 (1 + i) (by omega) (by omega) dL_law_638 ?_
    refine lv_aload_n X.1.1 X.1.2.1 dL_law_639 rfl (lv_at hl 0 rfl) ?_
    refine lv_iload_n X.1.1 X.1.2.1 dL_law_640 rfl (lv_at hl 3 rfl) ?_
    refine lv_iconst (v := nI 2) X.1.1 X.1.2.1 dL_law_641 (by decide) ?_
    refine sx_addN X (2 + i) (by omega) dL_law_642 ?_
    refine sx_sld X hX hbl hbA hP.2 (2 + i) (by omega) (by omega) dL_law_643 ?_
    refine lv_aload_n X.1.1 X.1.2.1 dL_law_644 rfl (lv_at hl 0 rfl) ?_
    refine lv_iload_n X.1.1 X.1.2.1 dL_law_645 rfl (lv_at hl 3 rfl) ?_
    refine lv_iconst (v := nI 3) X.1.1 X.1.2.1 dL_law_646 (by decide) ?_
    refine sx_addN X (3 + i) (by omega) dL_law_647 ?_
    refine sx_sld X hX hbl hbA hP.2 (3 + i) (by omega) (by omega) dL_law_648 ?_
    refine lv_if_eq X.1.1 X.1.2.1 (tgt := 656) dL_law_649 (by decide) (fun q => absurd q hz) (fun _ => ?_)
    refine lv_iconst (v := nI 1) X.1.1 X.1.2.1 dL_law_652 (by decide) ?_
    refine lv_goto (tgt := 657) X.1.1 X.1.2.1 dL_law_653 (by decide) ?_
    refine sx_cvI (As := [.int (xs (1 + i)), .int (xs (2 + i)), .int (nI 1)]) (rest := []) X (mX6_would l hW hwf (by decide) h0) gL_law_X6_would rfl yv_X6_would ⟨Nat.le_of_ble_eq_true rfl, Nat.le_of_ble_eq_true rfl⟩ h0 (by decide) rfl rfl hl.1 rfl (Nat.le_of_ble_eq_true rfl) dL_law_657 ⟨Nat.le_of_ble_eq_true rfl, Nat.le_of_ble_eq_true rfl⟩ hs rfl hP (fun r1 F1 H1 l1 hp hP => ?_)
    obtain ⟨rfl, hr1⟩ := hp
    refine lv_aload_n X.1.1 X.1.2.1 dL_law_660 rfl (lv_at hl 2 rfl) ?_
    refine lv_aload_n X.1.1 X.1.2.1 dL_law_661 rfl (lv_at hl 0 rfl) ?_
    refine lv_iload_n X.1.1 X.1.2.1 dL_law_662 rfl (lv_at hl 3 rfl) ?_
    refine lv_iconst (v := nI 1) X.1.1 X.1.2.1 dL_law_663 (by decide) ?_
    refine sx_addN X (1 + i) (by omega) dL_law_664 ?_
    refine sx_sld X hX hbl hbA hP.2 (1 + i) (by omega) (by omega) dL_law_665 ?_
    refine lv_aload_n X.1.1 X.1.2.1 dL_law_666 rfl (lv_at hl 0 rfl) ?_
    refine lv_iload_n X.1.1 X.1.2.1 dL_law_667 rfl (lv_at hl 3 rfl) ?_
    refine lv_iconst (v := nI 2) X.1.1 X.1.2.1 dL_law_668 (by decide) ?_
    refine sx_addN X (2 + i) (by omega) dL_law_669 ?_
    refine sx_sld X hX hbl hbA hP.2 (2 + i) (by omega) (by omega) dL_law_670 ?_
    refine lv_aload_n X.1.1 X.1.2.1 dL_law_671 rfl (lv_at hl 0 rfl) ?_
    refine lv_iload_n X.1.1 X.1.2.1 dL_law_672 rfl (lv_at hl 3 rfl) ?_
    refine lv_iconst (v := nI 3) X.1.1 X.1.2.1 dL_law_673 (by decide) ?_
    refine sx_addN X (3 + i) (by omega) dL_law_674 ?_
    refine sx_sld X hX hbl hbA hP.2 (3 + i) (by omega) (by omega) dL_law_675 ?_
    refine lv_if_eq X.1.1 X.1.2.1 (tgt := 683) dL_law_676 (by decide) (fun q => absurd q hz) (fun _ => ?_)
    refine lv_iconst (v := nI 1) X.1.1 X.1.2.1 dL_law_679 (by decide) ?_
    refine lv_goto (tgt := 684) X.1.1 X.1.2.1 dL_law_680 (by decide) ?_
    refine sx_cvI (As := [.int (xs (1 + i)), .int (xs (2 + i)), .int (nI 1)]) (rest := [.int r1]) X (mX7_would l (by decide) hwf.2.2.2.1 h91 h92) gL_law_X7_would rfl yv_X7_would ⟨Nat.le_of_ble_eq_true rfl, Nat.le_of_ble_eq_true rfl⟩ h91 (by decide) rfl rfl hl.1 rfl (Nat.le_of_ble_eq_true rfl) dL_law_684 ⟨Nat.le_of_ble_eq_true rfl, Nat.le_of_ble_eq_true rfl⟩ hs rfl hP (fun r2 F2 H2 l2 hp hP => ?_)
    obtain ⟨rfl, hr2⟩ := hp
    refine lv_icmp_eq X.1.1 X.1.2.1 (tgt := 761) dL_law_687 (by decide) (fun _ => ?_) (fun q => absurd (hr1.symm.trans hr2) q)
    exact kk _ _ _ (⟨w, jo, ik, A, n, en, len, m, hJ⟩) hP
set_option maxHeartbeats 800000 in
set_option maxRecDepth 100000 in
theorem law_18 {G : sx_G} {pp : Program} {l : Launch} {ee : Env} {ss : State} {mm : MethodId} {below : List Frame} {meth : Method} {kc : Code} {nm : String} {b K i : Nat} {xs : Nat → Int32} {Q : State → Prop} (X : sx_X G pp mm kc cL_law 4 ss #[Value.ref b] wsL_law RL meth (some .boolean) nm) (hs : ss.heap.size = sx_b G + 0) (hX : va_X b K xs ss ss.heap) (hbl : b < ss.heap.size) (hi : i + 4 ≤ K) (hK : K ≤ 2048) {F : Nat → va_E} {H : Heap} {lv : List Loc} {ls : Array Slot} (hI : LI G F) (hP : sx_H G 97 F ss.heap H lv) (hl : lv_has ls 4 [(0, .ref b), (1, rf G 0), (2, rf G 91), (3, .int (nI i))]) (kk : ∀ (F1 : Nat → va_E) (H1 : Heap) (l1 : List Loc), LI G F1 → sx_H G 97 F1 ss.heap H1 l1 → W pp l ee room_1 ss mm #[Value.ref b] below meth kc H1 l1 97 20000 Q (F0 mm 761 ls [])) : W pp l ee room_1 ss mm #[Value.ref b] below meth kc H lv 97 20000 Q (F0 mm 692 ls []) := by
  have hbA : ¬ sx_A G b := by show ¬ sx_b G ≤ b; omega
  obtain ⟨w, jo, ik, A, n, en, len, m, hJ⟩ := hI
  obtain ⟨h0, hW, ⟨im, h28, him⟩, hS0, hS1, hIm, h83, ⟨dv, iv, wv, rv, pv, h84⟩, ⟨jl, jp, h85, h86, h87, hBk⟩, ⟨lt, h88, hlt⟩, ⟨lw, tb, h89, h90⟩, ⟨xl, z5, z6, z7, z8, z9, z10, z11, h91⟩, h92, h93, h94, ⟨ol, ot, h95, h96⟩, hwf, hHO, hA, hen, hjo⟩ := id hJ
  refine lv_aload_n X.1.1 X.1.2.1 dL_law_692 rfl (lv_at hl 1 rfl) ?_
  refine lv_aload_n X.1.1 X.1.2.1 dL_law_693 rfl (lv_at hl 0 rfl) ?_
  refine lv_iload_n X.1.1 X.1.2.1 dL_law_694 rfl (lv_at hl 3 rfl) ?_
  refine lv_iconst (v := nI 1) X.1.1 X.1.2.1 dL_law_695 (by decide) ?_
  refine sx_addN X (1 + i) (by omega) dL_law_696 ?_
  refine sx_sld X hX hbl hbA hP.2 (1 + i) (by omega) (by omega) dL_law_697 ?_
  refine sx_cvI (As := [.int (xs (1 + i))]) (rest := []) X (mX6_guard l hW hwf h0) gL_law_X6_guard rfl yv_X6_guard ⟨Nat.le_of_ble_eq_true rfl, Nat.le_of_ble_eq_true rfl⟩ h0 (by decide) rfl rfl hl.1 rfl (Nat.le_of_ble_eq_true rfl) dL_law_698 ⟨Nat.le_of_ble_eq_true rfl, Nat.le_of_ble_eq_true rfl⟩ hs rfl hP (fun r1 F1 H1 l1 hp hP => ?_)
  obtain ⟨rfl, hr1⟩ := hp
  refine lv_aload_n X.1.1 X.1.2.1 dL_law_701 rfl (lv_at hl 2 rfl) ?_
  refine lv_aload_n X.1.1 X.1.2.1 dL_law_702 rfl (lv_at hl 0 rfl) ?_
  refine lv_iload_n X.1.1 X.1.2.1 dL_law_703 rfl (lv_at hl 3 rfl) ?_
  refine lv_iconst (v := nI 1) X.1.1 X.1.2.1 dL_law_704 (by decide) ?_
  refine sx_addN X (1 + i) (by omega) dL_law_705 ?_
  refine sx_sld X hX hbl hbA hP.2 (1 + i) (by omega) (by omega) dL_law_706 ?_
  refine sx_cvI (As := [.int (xs (1 + i))]) (rest := [.int r1]) X (mX7_guard l (n := n) hwf.2.1 hwf.1 h91 h92) gL_law_X7_guard rfl yv_X7_guard ⟨Nat.le_of_ble_eq_true rfl, Nat.le_of_ble_eq_true rfl⟩ h91 (by decide) rfl rfl hl.1 rfl (Nat.le_of_ble_eq_true rfl) dL_law_707 ⟨Nat.le_of_ble_eq_true rfl, Nat.le_of_ble_eq_true rfl⟩ hs rfl hP (fun r2 F2 H2 l2 hp hP => ?_)
  obtain ⟨rfl, hr2⟩ := hp
  refine lv_icmp_eq X.1.1 X.1.2.1 (tgt := 761) dL_law_710 (by decide) (fun _ => ?_) (fun q => absurd (hr1.symm.trans hr2) q)
  exact kk _ _ _ (⟨w, jo, ik, A, n, en, len, m, hJ⟩) hP
set_option maxHeartbeats 800000 in
set_option maxRecDepth 100000 in
theorem law_19 {G : sx_G} {pp : Program} {l : Launch} {ee : Env} {ss : State} {mm : MethodId} {below : List Frame} {meth : Method} {kc : Code} {nm : String} {b K i : Nat} {xs : Nat → Int32} {Q : State → Prop} (X : sx_X G pp mm kc cL_law 4 ss #[Value.ref b] wsL_law RL meth (some .boolean) nm) (hs : ss.heap.size = sx_b G + 0) (hX : va_X b K xs ss ss.heap) (hbl : b < ss.heap.size) (hi : i + 4 ≤ K) (hK : K ≤ 2048) {F : Nat → va_E} {H : Heap} {lv : List Loc} {ls : Array Slot} (hI : LI G F) (hP : sx_H G 97 F ss.heap H lv) (hl : lv_has ls 4 [(0, .ref b), (1, rf G 0), (2, rf G 91), (3, .int (nI i))]) (kk : ∀ (F1 : Nat → va_E) (H1 : Heap) (l1 : List Loc), LI G F1 → sx_H G 97 F1 ss.heap H1 l1 → W pp l ee room_1 ss mm #[Value.ref b] below meth kc H1 l1 97 20000 Q (F0 mm 761 ls [])) : W pp l ee room_1 ss mm #[Value.ref b] below meth kc H lv 97 20000 Q (F0 mm 715 ls []) := by
  have hbA : ¬ sx_A G b := by show ¬ sx_b G ≤ b; omega
  obtain ⟨w, jo, ik, A, n, en, len, m, hJ⟩ := hI
  obtain ⟨h0, hW, ⟨im, h28, him⟩, hS0, hS1, hIm, h83, ⟨dv, iv, wv, rv, pv, h84⟩, ⟨jl, jp, h85, h86, h87, hBk⟩, ⟨lt, h88, hlt⟩, ⟨lw, tb, h89, h90⟩, ⟨xl, z5, z6, z7, z8, z9, z10, z11, h91⟩, h92, h93, h94, ⟨ol, ot, h95, h96⟩, hwf, hHO, hA, hen, hjo⟩ := id hJ
  refine lv_aload_n X.1.1 X.1.2.1 dL_law_715 rfl (lv_at hl 1 rfl) ?_
  refine lv_aload_n X.1.1 X.1.2.1 dL_law_716 rfl (lv_at hl 0 rfl) ?_
  refine lv_iload_n X.1.1 X.1.2.1 dL_law_717 rfl (lv_at hl 3 rfl) ?_
  refine lv_iconst (v := nI 1) X.1.1 X.1.2.1 dL_law_718 (by decide) ?_
  refine sx_addN X (1 + i) (by omega) dL_law_719 ?_
  refine sx_sld X hX hbl hbA hP.2 (1 + i) (by omega) (by omega) dL_law_720 ?_
  refine sx_cvI (As := [.int (xs (1 + i))]) (rest := []) X (mX6_keep l hW hwf him hS0 hS1 h0 h28 h83) gL_law_X6_keep rfl yv_X6_keep ⟨Nat.le_of_ble_eq_true rfl, Nat.le_of_ble_eq_true rfl⟩ h0 (by decide) rfl rfl hl.1 rfl (Nat.le_of_ble_eq_true rfl) dL_law_721 ⟨Nat.le_of_ble_eq_true rfl, Nat.le_of_ble_eq_true rfl⟩ hs rfl hP (fun r1 F1 H1 l1 hp hP => ?_)
  obtain ⟨g1, hF, hr1⟩ | ⟨q, hq, hx, hWq, e83, o1, hr1⟩ := hp
  · have hF := hF.symm
    subst hF
    refine lv_aload_n X.1.1 X.1.2.1 dL_law_724 rfl (lv_at hl 2 rfl) ?_
    refine lv_aload_n X.1.1 X.1.2.1 dL_law_725 rfl (lv_at hl 0 rfl) ?_
    refine lv_iload_n X.1.1 X.1.2.1 dL_law_726 rfl (lv_at hl 3 rfl) ?_
    refine lv_iconst (v := nI 1) X.1.1 X.1.2.1 dL_law_727 (by decide) ?_
    refine sx_addN X (1 + i) (by omega) dL_law_728 ?_
    refine sx_sld X hX hbl hbA hP.2 (1 + i) (by omega) (by omega) dL_law_729 ?_
    refine sx_cvI (As := [.int (xs (1 + i))]) (rest := [.int r1]) X (mX7_keep l h91 h92 h93) gL_law_X7_keep rfl yv_X7_keep ⟨Nat.le_of_ble_eq_true rfl, Nat.le_of_ble_eq_true rfl⟩ h91 (by decide) rfl rfl hl.1 rfl (Nat.le_of_ble_eq_true rfl) dL_law_730 ⟨Nat.le_of_ble_eq_true rfl, Nat.le_of_ble_eq_true rfl⟩ hs rfl hP (fun r2 F2 H2 l2 hp hP => ?_)
    obtain ⟨g2, hF2, hr2⟩ | ⟨q2, hq2, hx2, -⟩ := hp
    · refine lv_icmp_eq X.1.1 X.1.2.1 (tgt := 761) dL_law_733 (by decide) (fun _ => ?_) (fun q => absurd (hr1.symm.trans hr2) q)
      exact kk _ _ _ (by rw [hF2]; exact ⟨w, jo, ik, A, n, en, len, m, hJ⟩) hP
    · exact absurd ⟨q2, hq2, hx2⟩ g1
  · have h91 := (o1 91 (by omega)).trans h91
    have h92 := (o1 92 (by omega)).trans h92
    have h93 := (o1 93 (by omega)).trans h93
    refine lv_aload_n X.1.1 X.1.2.1 dL_law_724 rfl (lv_at hl 2 rfl) ?_
    refine lv_aload_n X.1.1 X.1.2.1 dL_law_725 rfl (lv_at hl 0 rfl) ?_
    refine lv_iload_n X.1.1 X.1.2.1 dL_law_726 rfl (lv_at hl 3 rfl) ?_
    refine lv_iconst (v := nI 1) X.1.1 X.1.2.1 dL_law_727 (by decide) ?_
    refine sx_addN X (1 + i) (by omega) dL_law_728 ?_
    refine sx_sld X hX hbl hbA hP.2 (1 + i) (by omega) (by omega) dL_law_729 ?_
    refine sx_cvI (As := [.int (xs (1 + i))]) (rest := [.int r1]) X (mX7_keep l h91 h92 h93) gL_law_X7_keep rfl yv_X7_keep ⟨Nat.le_of_ble_eq_true rfl, Nat.le_of_ble_eq_true rfl⟩ h91 (by decide) rfl rfl hl.1 rfl (Nat.le_of_ble_eq_true rfl) dL_law_730 ⟨Nat.le_of_ble_eq_true rfl, Nat.le_of_ble_eq_true rfl⟩ hs rfl hP (fun r2 F2 H2 l2 hp hP => ?_)
    obtain ⟨g2, hF2, hr2⟩ | ⟨q2, hq2, hx2, e92, e93, o2, hr2⟩ := hp
    · exact absurd ⟨q, hq, hx⟩ g2
    · have e := (nI_eq (by omega) (by omega)).mp (hx.symm.trans hx2)
      subst e
      refine lv_icmp_eq X.1.1 X.1.2.1 (tgt := 761) dL_law_733 (by decide) (fun _ => ?_) (fun q => absurd (hr1.symm.trans (hwf.1.symm.trans hr2)) q)
      exact kk _ _ _ (⟨_, jo, _, A, n, en, len, _, LJ.keep hq hJ (WV.upd hWq (fun j a b => o2 j (by omega))) ((o2 83 (by omega)).trans e83) e92 e93 (fun j hj => (o2 j (by omega)).trans (o1 j (by omega)))⟩) hP
set_option maxHeartbeats 800000 in
set_option maxRecDepth 100000 in
theorem law_20 {G : sx_G} {pp : Program} {l : Launch} {ee : Env} {ss : State} {mm : MethodId} {below : List Frame} {meth : Method} {kc : Code} {nm : String} {b K i : Nat} {xs : Nat → Int32} {Q : State → Prop} (X : sx_X G pp mm kc cL_law 4 ss #[Value.ref b] wsL_law RL meth (some .boolean) nm) (hs : ss.heap.size = sx_b G + 0) (hX : va_X b K xs ss ss.heap) (hbl : b < ss.heap.size) (hi : i + 4 ≤ K) (hK : K ≤ 2048) {F : Nat → va_E} {H : Heap} {lv : List Loc} {ls : Array Slot} (hI : LI G F) (hP : sx_H G 97 F ss.heap H lv) (hl : lv_has ls 4 [(0, .ref b), (1, rf G 0), (2, rf G 91), (3, .int (nI i))]) (kk : ∀ (F1 : Nat → va_E) (H1 : Heap) (l1 : List Loc), LI G F1 → sx_H G 97 F1 ss.heap H1 l1 → W pp l ee room_1 ss mm #[Value.ref b] below meth kc H1 l1 97 20000 Q (F0 mm 761 ls [])) : W pp l ee room_1 ss mm #[Value.ref b] below meth kc H lv 97 20000 Q (F0 mm 738 ls []) := by
  have hbA : ¬ sx_A G b := by show ¬ sx_b G ≤ b; omega
  obtain ⟨w, jo, ik, A, n, en, len, m, hJ⟩ := hI
  obtain ⟨h0, hW, ⟨im, h28, him⟩, hS0, hS1, hIm, h83, ⟨dv, iv, wv, rv, pv, h84⟩, ⟨jl, jp, h85, h86, h87, hBk⟩, ⟨lt, h88, hlt⟩, ⟨lw, tb, h89, h90⟩, ⟨xl, z5, z6, z7, z8, z9, z10, z11, h91⟩, h92, h93, h94, ⟨ol, ot, h95, h96⟩, hwf, hHO, hA, hen, hjo⟩ := id hJ
  refine lv_aload_n X.1.1 X.1.2.1 dL_law_738 rfl (lv_at hl 1 rfl) ?_
  refine lv_aload_n X.1.1 X.1.2.1 dL_law_739 rfl (lv_at hl 0 rfl) ?_
  refine lv_iload_n X.1.1 X.1.2.1 dL_law_740 rfl (lv_at hl 3 rfl) ?_
  refine lv_iconst (v := nI 1) X.1.1 X.1.2.1 dL_law_741 (by decide) ?_
  refine sx_addN X (1 + i) (by omega) dL_law_742 ?_
  refine sx_sld X hX hbl hbA hP.2 (1 + i) (by omega) (by omega) dL_law_743 ?_
  refine sx_cvI (As := [.int (xs (1 + i))]) (rest := []) X (mX6_goBack l (v := img w) (m := m) hW hwf him (fun i hi hk => ⟨(hIm i hi hk).1, (hIm i hi hk).2.2⟩) h0 h28 h83) gL_law_X6_goBack rfl yv_X6_goBack ⟨Nat.le_of_ble_eq_true rfl, Nat.le_of_ble_eq_true rfl⟩ h0 (by decide) rfl rfl hl.1 rfl (Nat.le_of_ble_eq_true rfl) dL_law_744 ⟨Nat.le_of_ble_eq_true rfl, Nat.le_of_ble_eq_true rfl⟩ hs rfl hP (fun r1 F1 H1 l1 hp hP => ?_)
  obtain ⟨g1, hF, hr1⟩ | ⟨q, hq, hx, hk, hF, hr1⟩ | ⟨q, hq, hx, hk, hW1, o1, hr1⟩ := hp
  · have hF := hF.symm
    subst hF
    refine lv_aload_n X.1.1 X.1.2.1 dL_law_747 rfl (lv_at hl 2 rfl) ?_
    refine lv_aload_n X.1.1 X.1.2.1 dL_law_748 rfl (lv_at hl 0 rfl) ?_
    refine lv_iload_n X.1.1 X.1.2.1 dL_law_749 rfl (lv_at hl 3 rfl) ?_
    refine lv_iconst (v := nI 1) X.1.1 X.1.2.1 dL_law_750 (by decide) ?_
    refine sx_addN X (1 + i) (by omega) dL_law_751 ?_
    refine sx_sld X hX hbl hbA hP.2 (1 + i) (by omega) (by omega) dL_law_752 ?_
    refine sx_cvI (As := [.int (xs (1 + i))]) (rest := [.int r1]) X (mX7_goBack l h91 h92 h93) gL_law_X7_goBack rfl yv_X7_goBack ⟨Nat.le_of_ble_eq_true rfl, Nat.le_of_ble_eq_true rfl⟩ h91 (by decide) rfl rfl hl.1 rfl (Nat.le_of_ble_eq_true rfl) dL_law_753 ⟨Nat.le_of_ble_eq_true rfl, Nat.le_of_ble_eq_true rfl⟩ hs rfl hP (fun r2 F2 H2 l2 hp hP => ?_)
    obtain ⟨g2, hF2, hr2⟩ | ⟨q2, hq2, hx2, -⟩ | ⟨q2, hq2, hx2, -⟩ := hp
    · refine lv_icmp_eq X.1.1 X.1.2.1 (tgt := 761) dL_law_756 (by decide) (fun _ => ?_) (fun q => absurd (hr1.symm.trans hr2) q)
      exact kk _ _ _ (by rw [hF2]; exact ⟨w, jo, ik, A, n, en, len, m, hJ⟩) hP
    · exact absurd ⟨q2, hq2, hx2⟩ g1
    · exact absurd ⟨q2, hq2, hx2⟩ g1
  · have hF := hF.symm
    subst hF
    refine lv_aload_n X.1.1 X.1.2.1 dL_law_747 rfl (lv_at hl 2 rfl) ?_
    refine lv_aload_n X.1.1 X.1.2.1 dL_law_748 rfl (lv_at hl 0 rfl) ?_
    refine lv_iload_n X.1.1 X.1.2.1 dL_law_749 rfl (lv_at hl 3 rfl) ?_
    refine lv_iconst (v := nI 1) X.1.1 X.1.2.1 dL_law_750 (by decide) ?_
    refine sx_addN X (1 + i) (by omega) dL_law_751 ?_
    refine sx_sld X hX hbl hbA hP.2 (1 + i) (by omega) (by omega) dL_law_752 ?_
    refine sx_cvI (As := [.int (xs (1 + i))]) (rest := [.int r1]) X (mX7_goBack l h91 h92 h93) gL_law_X7_goBack rfl yv_X7_goBack ⟨Nat.le_of_ble_eq_true rfl, Nat.le_of_ble_eq_true rfl⟩ h91 (by decide) rfl rfl hl.1 rfl (Nat.le_of_ble_eq_true rfl) dL_law_753 ⟨Nat.le_of_ble_eq_true rfl, Nat.le_of_ble_eq_true rfl⟩ hs rfl hP (fun r2 F2 H2 l2 hp hP => ?_)
    obtain ⟨g2, hF2, hr2⟩ | ⟨q2, hq2, hx2, hk2, hF2, hr2⟩ | ⟨q2, hq2, hx2, hk2, -⟩ := hp
    · exact absurd ⟨q, hq, hx⟩ g2
    · refine lv_icmp_eq X.1.1 X.1.2.1 (tgt := 761) dL_law_756 (by decide) (fun _ => ?_) (fun q => absurd (hr1.symm.trans hr2) q)
      exact kk _ _ _ (by rw [hF2]; exact ⟨w, jo, ik, A, n, en, len, m, hJ⟩) hP
    · have e := (nI_eq (by omega) (by omega)).mp (hx.symm.trans hx2)
      subst e
      exact absurd hk hk2
  · have h91 := (o1 91 (by omega)).trans h91
    have h92 := (o1 92 (by omega)).trans h92
    have h93 := (o1 93 (by omega)).trans h93
    refine lv_aload_n X.1.1 X.1.2.1 dL_law_747 rfl (lv_at hl 2 rfl) ?_
    refine lv_aload_n X.1.1 X.1.2.1 dL_law_748 rfl (lv_at hl 0 rfl) ?_
    refine lv_iload_n X.1.1 X.1.2.1 dL_law_749 rfl (lv_at hl 3 rfl) ?_
    refine lv_iconst (v := nI 1) X.1.1 X.1.2.1 dL_law_750 (by decide) ?_
    refine sx_addN X (1 + i) (by omega) dL_law_751 ?_
    refine sx_sld X hX hbl hbA hP.2 (1 + i) (by omega) (by omega) dL_law_752 ?_
    refine sx_cvI (As := [.int (xs (1 + i))]) (rest := [.int r1]) X (mX7_goBack l h91 h92 h93) gL_law_X7_goBack rfl yv_X7_goBack ⟨Nat.le_of_ble_eq_true rfl, Nat.le_of_ble_eq_true rfl⟩ h91 (by decide) rfl rfl hl.1 rfl (Nat.le_of_ble_eq_true rfl) dL_law_753 ⟨Nat.le_of_ble_eq_true rfl, Nat.le_of_ble_eq_true rfl⟩ hs rfl hP (fun r2 F2 H2 l2 hp hP => ?_)
    obtain ⟨g2, hF2, hr2⟩ | ⟨q2, hq2, hx2, hk2, -⟩ | ⟨q2, hq2, hx2, hk2, e2, o2, hr2⟩ := hp
    · exact absurd ⟨q, hq, hx⟩ g2
    · have e := (nI_eq (by omega) (by omega)).mp (hx.symm.trans hx2)
      subst e
      exact absurd hk2 hk
    · have e := (nI_eq (by omega) (by omega)).mp (hx.symm.trans hx2)
      subst e
      obtain ⟨a1, a2, -⟩ := hIm q hq hk
      refine lv_icmp_eq X.1.1 X.1.2.1 (tgt := 761) dL_law_756 (by decide) (fun _ => ?_) (fun q => absurd (hr1.symm.trans (a1.1.symm.trans hr2)) q)
      exact kk _ _ _ (⟨backF w q, jo, ik, A, m q, en, len, m, hJ.world (fun j hj => (o2 j (by omega)).trans (o1 j (by omega))) ⟨xl, z5, z6, z7, z8, z9, z10, z11, (o2 91 (by omega)).trans h91⟩ ((WV.upd hW1 (fun j a b => o2 j (by omega))).congr a1.2.1 a1.2.2.1 (fun j hj => back_low hj)) e2 (a1.congr (fun j hj => back_low hj)) (a2.congr (fun k hk => back_low (by omega))) (fun k hk => back_far hk)⟩) hP
