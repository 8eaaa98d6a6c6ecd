def s_WT_names (c : CW) (S : WS)  : Option (Int × WS) := if w32 S.wt_hasTable = 0 then some (-1, S) else mb2 (s_Gr_nameCount c S ) (fun r4 S4 => some (r4, S4))
set_option maxHeartbeats 4000000 in
set_option maxRecDepth 100000 in
theorem r_WT_names (l : Launch) (D : jd_T) (g : Nat → Nat) (A : AW) (c : CW) (S : WS)  (r : Int) (S9 : WS)  (hs : s_WT_names c S  = some (r, S9)) : jc_C l D y_WT_names b_WT_names 1 (some .int) { frames := 1, cells := 0, slots := 0, locals := 20 } [.ref (g 0)] (wtL D g A c S) (fun _ : Unit => (.returned (some (.int (ii r))), True, wtL D g A c S9)) := by
  refine jc_of rfl (Nat.le_of_ble_eq_true rfl) ?_
  intro X hl hR hN ok hnm fin
  subst hl
  show jw X 0 0 (wtL D g A c S) [(0, .ref (g 0))] 0 []
  rw [s_WT_names] at hs
  refine jr_aload_n ok 0 d_WT_names_0 rfl rfl ?_
  refine jr_get (v := .int (ii S.wt_hasTable)) ok 0 f_WT_211 rfl rfl d_WT_names_1 ?_
  refine jr_wif_eq 17 ok rfl d_WT_names_4 (by decide) (fun c3 => ?_) (fun c3 => ?_)
  · replace hs := oq_pos c3 hs
    refine jr_iconst ok d_WT_names_17 ?_
    exact jm_iret (Lf := wtL D g A c) ok fin hs d_WT_names_18
  · replace hs := oq_neg c3 hs
    refine jr_aload_n ok 0 d_WT_names_7 rfl rfl ?_
    refine jr_get (v := .ref (g 12)) ok 0 f_WT_51 rfl rfl d_WT_names_8 ?_
    obtain ⟨r4, S4, hc4, hs⟩ := mb2_some hs
    refine jq_cV1 ok hR m_WT_227 (r_Gr_nameCount (jx_l X) D g A c S  r4 S4  hc4) (sg_atk 15 rfl) rfl rfl rfl (Nat.le_of_ble_eq_true rfl) ⟨Nat.le_of_ble_eq_true rfl, Nat.le_of_ble_eq_true rfl⟩ ⟨Nat.zero_le _, Nat.zero_le _⟩ d_WT_names_11 ?_
    show jw X 0 0 (wtL D g A c S4) [(0, .ref (g 0))] 14 [.int (ii r4)]
    refine jr_goto 18 ok d_WT_names_14 (by decide) ?_
    exact jm_iret (Lf := wtL D g A c) ok fin hs d_WT_names_18

def s_WT_hasRow (c : CW) (S : WS) (v1 : Int) : Option (Int × WS) := if w32 S.wt_hasTable = 0 then some (0, S) else if w32 v1 < 0 then some (0, S) else mb2 (s_Ev_table c S ) (fun r9 S9 => if r9 < 19 then mb2 (s_Gd_lines c S9 r9) (fun r11 S11 => if w32 r11 ≤ w32 v1 then some (0, S11) else some (1, S11)) else none)
set_option maxHeartbeats 4000000 in
set_option maxRecDepth 100000 in
theorem r_WT_hasRow (l : Launch) (D : jd_T) (g : Nat → Nat) (A : AW) (c : CW) (S : WS) (v1 : Int) (r : Int) (S9 : WS)  (hs : s_WT_hasRow c S v1 = some (r, S9)) : jc_C l D y_WT_hasRow b_WT_hasRow 2 (some .boolean) { frames := 1, cells := 0, slots := 0, locals := 20 } [.ref (g 0), .int (ii v1)] (wtL D g A c S) (fun _ : Unit => (.returned (some (.int (ii r))), True, wtL D g A c S9)) := by
  refine jc_of rfl (Nat.le_of_ble_eq_true rfl) ?_
  intro X hl hR hN ok hnm fin
  subst hl
  show jw X 0 0 (wtL D g A c S) [(0, .ref (g 0)), (1, .int (ii v1))] 0 []
  rw [s_WT_hasRow] at hs
  refine jr_aload_n ok 0 d_WT_hasRow_0 rfl rfl ?_
  refine jr_get (v := .int (ii S.wt_hasTable)) ok 0 f_WT_211 rfl rfl d_WT_hasRow_1 ?_
  refine jr_wif_eq 29 ok rfl d_WT_hasRow_4 (by decide) (fun c7 => ?_) (fun c7 => ?_)
  · replace hs := oq_pos c7 hs
    refine jr_iconst ok d_WT_hasRow_29 ?_
    exact jm_zret (Lf := wtL D g A c) ok (by decide +kernel) fin hs d_WT_hasRow_30
  · replace hs := oq_neg c7 hs
    refine jr_iload_n ok 1 d_WT_hasRow_7 rfl rfl ?_
    refine jr_wif_lt 29 ok rfl d_WT_hasRow_8 (by decide) (fun c8 => ?_) (fun c8 => ?_)
    · replace hs := oq_pos c8 hs
      refine jr_iconst ok d_WT_hasRow_29 ?_
      exact jm_zret (Lf := wtL D g A c) ok (by decide +kernel) fin hs d_WT_hasRow_30
    · replace hs := oq_neg c8 hs
      refine jr_iload_n ok 1 d_WT_hasRow_11 rfl rfl ?_
      refine jr_aload_n ok 0 d_WT_hasRow_12 rfl rfl ?_
      refine jr_get (v := .ref (g 17)) ok 0 f_WT_60 rfl rfl d_WT_hasRow_13 ?_
      obtain ⟨r9, S9, hc9, hs⟩ := mb2_some hs
      refine jq_cV1 ok hR m_WT_276 (r_Ev_table (jx_l X) D g A c S  r9 S9  hc9) (sg_atk 20 rfl) rfl rfl rfl (Nat.le_of_ble_eq_true rfl) ⟨Nat.le_of_ble_eq_true rfl, Nat.le_of_ble_eq_true rfl⟩ ⟨Nat.zero_le _, Nat.zero_le _⟩ d_WT_hasRow_16 ?_
      obtain ⟨hb10, hs⟩ := oq_if hs
      show jw X 0 0 (wtL D g A c S9) [(0, .ref (g 0)), (1, .int (ii v1))] 19 [.ref (g (19 + r9)), .int (ii v1)]
      obtain ⟨r11, S11, hc11, hs⟩ := mb2_some hs
      refine jq_cV1 ok hR m_WT_280 (r_Gd_lines (jx_l X) D g A c S9 r9 r11 S11 hb10 hc11) (sg_atp (F := grdW D g A c S9) 23 rfl hb10 0 rfl) rfl rfl rfl (Nat.le_of_ble_eq_true rfl) ⟨Nat.le_of_ble_eq_true rfl, Nat.le_of_ble_eq_true rfl⟩ ⟨Nat.zero_le _, Nat.zero_le _⟩ d_WT_hasRow_19 ?_
      show jw X 0 0 (wtL D g A c S11) [(0, .ref (g 0)), (1, .int (ii v1))] 22 [.int (ii r11), .int (ii v1)]
      refine jr_wicmp_ge 29 ok rfl rfl d_WT_hasRow_22 (by decide) (fun c12 => ?_) (fun c12 => ?_)
      · replace hs := oq_pos c12 hs
        refine jr_iconst ok d_WT_hasRow_29 ?_
        exact jm_zret (Lf := wtL D g A c) ok (by decide +kernel) fin hs d_WT_hasRow_30
      · replace hs := oq_neg c12 hs
        refine jr_iconst ok d_WT_hasRow_25 ?_
        refine jr_goto 30 ok d_WT_hasRow_26 (by decide) ?_
        exact jm_zret (Lf := wtL D g A c) ok (by decide +kernel) fin hs d_WT_hasRow_30

def s_WT_existing (C0 : CW) (S : WS) (v1 : Int) : Option ((Int × Nat) × CW × WS) := if (-2147483648 ≤ v1 ∧ v1 ≤ 2147483647) ∧ C0.N ≤ 256 then if (0 : Int) ≤ v1 ∧ v1 < (C0.N : Int) then some ((0, v1.toNat), C0, S) else if 1 ≤ C0.bc ∧ 6 ≤ C0.bs then some ((3, 0), (CW.w_bs (CW.w_bc C0 (C0.bc - 1)) (C0.bs - 6)), S) else none else none
set_option maxHeartbeats 4000000 in
set_option maxRecDepth 100000 in
theorem r_WT_existing (l : Launch) (hnt : jl_nt l) (D : jd_T) (g : Nat → Nat) (A0 : AW) (C0 : CW) (S : WS) (v1 : Int) (t : Int) (r : Nat) (c9 : CW) (S9 : WS)  (hs : s_WT_existing C0 S v1 = some ((t, r), c9, S9)) : jgT_C l D y_WT_existing b_WT_existing 3 (some (.object "WindowTables$Series")) { frames := 6, cells := C0.bc, slots := C0.bs, locals := 90 } [.ref (g 0), .int (ii v1)] (wtL D g A0 C0 S) (fun q : AW × Nat => (oT t (some (.ref (q.1.us r 0))) q.2, (c9.bc ≤ C0.bc ∧ c9.bs ≤ C0.bs) ∧ aS A0 q.1, wtL D g q.1 c9 S9 ++ xT D t q.2, C0.bc - c9.bc, C0.bs - c9.bs)) := by
  refine jgT_of rfl (Nat.le_of_ble_eq_true rfl) ?_
  intro X hl hR hN ok hI hTT hnh fin
  subst hl
  have hcc : (C0.bc ≤ C0.bc ∧ C0.bs ≤ C0.bs) ∧ aS A0 A0 := ⟨⟨Nat.le_refl _, Nat.le_refl _⟩, fun _ _ _ => rfl⟩
  refine jr_widen (cs' := C0.bc - C0.bc) (sl' := C0.bs - C0.bs) (Nat.zero_le _) (Nat.zero_le _) ?_
  show jw X (C0.bc - C0.bc) (C0.bs - C0.bs) (wtL D g A0 C0 S) [(0, .ref (g 0)), (1, .int (ii v1))] 0 []
  rw [s_WT_existing] at hs
  refine jr_aload_n ok 0 d_WT_existing_0 rfl rfl ?_
  refine jr_get (v := .ref (g 2)) ok 0 f_WT_19 rfl rfl d_WT_existing_1 ?_
  refine jr_iload_n ok 1 d_WT_existing_4 rfl rfl ?_
  obtain ⟨hb6, hs⟩ := oq_if hs
  by_cases c7 : (0 : Int) ≤ v1 ∧ v1 < (C0.N : Int)
  · replace hs := oq_pos c7 hs
    refine jq_cV1 ok hR m_WT_271 (r_St_find (jx_l X) D g A0 C0 S v1 ⟨c7, hb6.2⟩) (sg_atk 3 rfl) rfl rfl rfl (Nat.le_of_ble_eq_true rfl) ⟨Nat.le_of_ble_eq_true rfl, Nat.le_of_ble_eq_true rfl⟩ ⟨Nat.sub_le _ _, Nat.sub_le _ _⟩ d_WT_existing_5 ?_
    refine jr_astore_n [(2, .ref (A0.us v1.toNat 0)), (0, .ref (g 0)), (1, .int (ii v1))] ok d_WT_existing_8 rfl (by rw [hN]; decide) rfl ?_
    refine jr_aload_n ok 0 d_WT_existing_9 rfl rfl ?_
    refine jr_ifnonnull_r 24 ok d_WT_existing_10 (by decide) ?_
    refine jr_aload_n ok 0 d_WT_existing_24 rfl rfl ?_
    exact jt_aret (f := fun A z => (A.us z 0)) (ψ := aS A0) (Lf := wtL D g) (bc := CW.bc) (bs := CW.bs) A0 ok fin hcc hs d_WT_existing_25
  · replace hs := oq_neg c7 hs
    refine jq_cV1 ok hR m_WT_271 (r_St_find0 (jx_l X) D g A0 C0 S v1 hb6.1 hb6.2 c7) (sg_atk 3 rfl) rfl rfl rfl (Nat.le_of_ble_eq_true rfl) ⟨Nat.le_of_ble_eq_true rfl, Nat.le_of_ble_eq_true rfl⟩ ⟨Nat.sub_le _ _, Nat.sub_le _ _⟩ d_WT_existing_5 ?_
    refine jr_astore_nN [(2, .null), (0, .ref (g 0)), (1, .int (ii v1))] ok d_WT_existing_8 rfl (by rw [hN]; decide) rfl ?_
    refine jr_aload_nN ok 0 d_WT_existing_9 rfl rfl ?_
    refine jr_ifnonnull_n ok d_WT_existing_10 ?_
    obtain ⟨hb8, hs⟩ := oq_if hs
    exact jt_throwW (vf := fun A r => some (.ref (A.us r 0))) (ψ := aS A0) (Lf := wtL D g) (bc := CW.bc) (bs := CW.bs) (e := (CW.w_bs (CW.w_bc C0 (C0.bc - 1)) (C0.bs - 6))) (z := 0) (tx := "there is no such series") 3 A0 rfl (by decide) rfl hnt ok hTT hnh w_585 w_586 w_23 (by decide +kernel) (by decide +kernel) jTa_125 d_WT_existing_13 d_WT_existing_16 d_WT_existing_17 d_WT_existing_20 d_WT_existing_23 hR ⟨Nat.le_of_ble_eq_true rfl, Nat.le_of_ble_eq_true rfl⟩ hb8 rfl rfl fin hcc hs rfl

def q_WT_tableWith_28 (c : CW)  (S : WS) : Option ((Int × Nat) × CW × WS) := if 1 ≤ c.bc ∧ 6 ≤ c.bs then some ((3, 0), (CW.w_bs (CW.w_bc c (c.bc - 1)) (c.bs - 6)), S) else none

def s_WT_tableWith (C0 : CW) (S : WS) (v1 : Int) (v2 : Int) : Option ((Int × Nat) × CW × WS) := mb2 (s_Ev_table C0 S ) (fun r10 S10 => if r10 < 19 then mb2 (s_WT_hasRow C0 S10 v1) (fun r12 S12 => if w32 r12 = 0 then q_WT_tableWith_28 C0 S12 else if w32 v2 < 0 then q_WT_tableWith_28 C0 S12 else mb2 (s_Gd_windows C0 S12 r10) (fun r15 S15 => if w32 v2 < w32 r15 then some ((0, r10), C0, S15) else q_WT_tableWith_28 C0 S15)) else none)
set_option maxHeartbeats 4000000 in
set_option maxRecDepth 100000 in
theorem r_WT_tableWith (l : Launch) (hnt : jl_nt l) (D : jd_T) (g : Nat → Nat) (A0 : AW) (C0 : CW) (S : WS) (v1 : Int) (v2 : Int) (t : Int) (r : Nat) (c9 : CW) (S9 : WS)  (hs : s_WT_tableWith C0 S v1 v2 = some ((t, r), c9, S9)) : jgT_C l D y_WT_tableWith b_WT_tableWith 4 (some (.object "WindowTables$Grid")) { frames := 6, cells := C0.bc, slots := C0.bs, locals := 90 } [.ref (g 0), .int (ii v1), .int (ii v2)] (wtL D g A0 C0 S) (fun q : AW × Nat => (oT t (some (.ref (g (19 + r)))) q.2, (c9.bc ≤ C0.bc ∧ c9.bs ≤ C0.bs) ∧ aS A0 q.1, wtL D g q.1 c9 S9 ++ xT D t q.2, C0.bc - c9.bc, C0.bs - c9.bs)) := by
  refine jgT_of rfl (Nat.le_of_ble_eq_true rfl) ?_
  intro X hl hR hN ok hI hTT hnh fin
  subst hl
  have hcc : (C0.bc ≤ C0.bc ∧ C0.bs ≤ C0.bs) ∧ aS A0 A0 := ⟨⟨Nat.le_refl _, Nat.le_refl _⟩, fun _ _ _ => rfl⟩
  have B_28 : ∀ (A : AW) (c : CW) (S : WS), (c.bc ≤ C0.bc ∧ c.bs ≤ C0.bs) ∧ aS A0 A → q_WT_tableWith_28 c S = some ((t, r), c9, S9) → jw X (C0.bc - c.bc) (C0.bs - c.bs) (wtL D g A c S) [] 28 [] := by
    intro A c S hcc hs
    rw [q_WT_tableWith_28] at hs
    obtain ⟨hb9, hs⟩ := oq_if hs
    exact jt_throwW (vf := fun _ r => some (.ref (g (19 + r)))) (ψ := aS A0) (Lf := wtL D g) (bc := CW.bc) (bs := CW.bs) (e := (CW.w_bs (CW.w_bc c (c.bc - 1)) (c.bs - 6))) (z := 0) (tx := "there is no such row or window") 3 A rfl (by decide) rfl hnt ok hTT hnh w_585 w_586 w_23 (by decide +kernel) (by decide +kernel) jTa_125 d_WT_tableWith_28 d_WT_tableWith_31 d_WT_tableWith_32 d_WT_tableWith_35 d_WT_tableWith_38 hR ⟨Nat.le_of_ble_eq_true rfl, Nat.le_of_ble_eq_true rfl⟩ hb9 rfl rfl fin hcc hs rfl
  refine jr_widen (cs' := C0.bc - C0.bc) (sl' := C0.bs - C0.bs) (Nat.zero_le _) (Nat.zero_le _) ?_
  show jw X (C0.bc - C0.bc) (C0.bs - C0.bs) (wtL D g A0 C0 S) [(0, .ref (g 0)), (1, .int (ii v1)), (2, .int (ii v2))] 0 []
  rw [s_WT_tableWith] at hs
  refine jr_aload_n ok 0 d_WT_tableWith_0 rfl rfl ?_
  refine jr_get (v := .ref (g 17)) ok 0 f_WT_60 rfl rfl d_WT_tableWith_1 ?_
  obtain ⟨r10, S10, hc10, hs⟩ := mb2_some hs
  refine jq_cV1 ok hR m_WT_276 (r_Ev_table (jx_l X) D g A0 C0 S  r10 S10  hc10) (sg_atk 20 rfl) rfl rfl rfl (Nat.le_of_ble_eq_true rfl) ⟨Nat.le_of_ble_eq_true rfl, Nat.le_of_ble_eq_true rfl⟩ ⟨Nat.sub_le _ _, Nat.sub_le _ _⟩ d_WT_tableWith_4 ?_
  obtain ⟨hb11, hs⟩ := oq_if hs
  show jw X (C0.bc - C0.bc) (C0.bs - C0.bs) (wtL D g A0 C0 S10) [(0, .ref (g 0)), (1, .int (ii v1)), (2, .int (ii v2))] 7 [.ref (g (19 + r10))]
  refine jr_astore_n [(3, .ref (g (19 + r10))), (0, .ref (g 0)), (1, .int (ii v1)), (2, .int (ii v2))] ok d_WT_tableWith_7 rfl (by rw [hN]; decide) rfl ?_
  refine jr_aload_n ok 1 d_WT_tableWith_8 rfl rfl ?_
  refine jr_iload_n ok 2 d_WT_tableWith_9 rfl rfl ?_
  obtain ⟨r12, S12, hc12, hs⟩ := mb2_some hs
  refine jq_cV1 ok hR m_WT_230 (r_WT_hasRow (jx_l X) D g A0 C0 S10 v1 r12 S12  hc12) (sg_atk 0 rfl) rfl rfl rfl (Nat.le_of_ble_eq_true rfl) ⟨Nat.le_of_ble_eq_true rfl, Nat.le_of_ble_eq_true rfl⟩ ⟨Nat.sub_le _ _, Nat.sub_le _ _⟩ d_WT_tableWith_10 ?_
  show jw X (C0.bc - C0.bc) (C0.bs - C0.bs) (wtL D g A0 C0 S12) [(3, .ref (g (19 + r10))), (0, .ref (g 0)), (1, .int (ii v1)), (2, .int (ii v2))] 13 [.int (ii r12)]
  refine jr_wif_eq 28 ok rfl d_WT_tableWith_13 (by decide) (fun c13 => ?_) (fun c13 => ?_)
  · replace hs := oq_pos c13 hs
    exact jr_lv [] rfl (B_28 A0 C0 S12 hcc hs)
  · replace hs := oq_neg c13 hs
    refine jr_iload_n ok 3 d_WT_tableWith_16 rfl rfl ?_
    refine jr_wif_lt 28 ok rfl d_WT_tableWith_17 (by decide) (fun c14 => ?_) (fun c14 => ?_)
    · replace hs := oq_pos c14 hs
      exact jr_lv [] rfl (B_28 A0 C0 S12 hcc hs)
    · replace hs := oq_neg c14 hs
      refine jr_iload_n ok 3 d_WT_tableWith_20 rfl rfl ?_
      refine jr_aload_n ok 0 d_WT_tableWith_21 rfl rfl ?_
      obtain ⟨r15, S15, hc15, hs⟩ := mb2_some hs
      refine jq_cV1 ok hR m_WT_283 (r_Gd_windows (jx_l X) D g A0 C0 S12 r10 r15 S15 hb11 hc15) (sg_atp (F := grdW D g A0 C0 S12) 23 rfl hb11 0 rfl) rfl rfl rfl (Nat.le_of_ble_eq_true rfl) ⟨Nat.le_of_ble_eq_true rfl, Nat.le_of_ble_eq_true rfl⟩ ⟨Nat.sub_le _ _, Nat.sub_le _ _⟩ d_WT_tableWith_22 ?_
      show jw X (C0.bc - C0.bc) (C0.bs - C0.bs) (wtL D g A0 C0 S15) [(3, .ref (g (19 + r10))), (0, .ref (g 0)), (1, .int (ii v1)), (2, .int (ii v2))] 25 [.int (ii r15), .int (ii v2)]
      refine jr_wicmp_lt 39 ok rfl rfl d_WT_tableWith_25 (by decide) (fun c16 => ?_) (fun c16 => ?_)
      · replace hs := oq_pos c16 hs
        refine jr_aload_n ok 0 d_WT_tableWith_39 rfl rfl ?_
        exact jt_aret (f := fun A z => (g (19 + z))) (ψ := aS A0) (Lf := wtL D g) (bc := CW.bc) (bs := CW.bs) A0 ok fin hcc hs d_WT_tableWith_40
      · replace hs := oq_neg c16 hs
        exact jr_lv [] rfl (B_28 A0 C0 S15 hcc hs)

def s_WT_feed (C0 : CW) (S : WS) (v1 : Int) (v2 : Int) (v3 : Int) (v4 : Int) (v5 : Int) : Option ((Int × Int) × CW × WS) := mb2 (s_Tp_size C0 S ) (fun r10 S10 => if w32 r10 ≤ 65516 then mb3 (s_Tp_put C0 S10 v1) (fun r12 e12 S12 => mb3 (s_Tp_put e12 S12 v2) (fun r13 e13 S13 => mb3 (s_Tp_put e13 S13 v3) (fun r14 e14 S14 => mb3 (s_Tp_put e14 S14 v4) (fun r15 e15 S15 => mb3 (s_Tp_put e15 S15 v5) (fun r16 e16 S16 => mb2 (s_Tp_size e16 S16 ) (fun r17 S17 => some ((0, r17), e16, S17))))))) else if 1 ≤ C0.bc ∧ 6 ≤ C0.bs then some ((1, 0), (CW.w_bs (CW.w_bc C0 (C0.bc - 1)) (C0.bs - 6)), S10) else none)
set_option maxHeartbeats 4000000 in
set_option maxRecDepth 100000 in
theorem r_WT_feed (l : Launch) (hnt : jl_nt l) (D : jd_T) (g : Nat → Nat) (A0 : AW) (C0 : CW) (S : WS) (v1 : Int) (v2 : Int) (v3 : Int) (v4 : Int) (v5 : Int) (t : Int) (r : Int) (c9 : CW) (S9 : WS)  (hs : s_WT_feed C0 S v1 v2 v3 v4 v5 = some ((t, r), c9, S9)) : jgT_C l D y_WT_feed b_WT_feed 6 (some .int) { frames := 6, cells := C0.bc, slots := C0.bs, locals := 90 } [.ref (g 0), .int (ii v1), .int (ii v2), .int (ii v3), .int (ii v4), .int (ii v5)] (wtL D g A0 C0 S) (fun q : AW × Nat => (oT t (some (.int (ii r))) q.2, (c9.bc ≤ C0.bc ∧ c9.bs ≤ C0.bs) ∧ aS A0 q.1, wtL D g q.1 c9 S9 ++ xT D t q.2, C0.bc - c9.bc, C0.bs - c9.bs)) := by
  refine jgT_of rfl (Nat.le_of_ble_eq_true rfl) ?_
  intro X hl hR hN ok hI hTT hnh fin
  subst hl
  have hcc : (C0.bc ≤ C0.bc ∧ C0.bs ≤ C0.bs) ∧ aS A0 A0 := ⟨⟨Nat.le_refl _, Nat.le_refl _⟩, fun _ _ _ => rfl⟩
  refine jr_widen (cs' := C0.bc - C0.bc) (sl' := C0.bs - C0.bs) (Nat.zero_le _) (Nat.zero_le _) ?_
  show jw X (C0.bc - C0.bc) (C0.bs - C0.bs) (wtL D g A0 C0 S) [(0, .ref (g 0)), (1, .int (ii v1)), (2, .int (ii v2)), (3, .int (ii v3)), (4, .int (ii v4)), (5, .int (ii v5))] 0 []
  rw [s_WT_feed] at hs
  refine jr_aload_n ok 0 d_WT_feed_0 rfl rfl ?_
  refine jr_get (v := .ref (g 1)) ok 0 f_WT_12 rfl rfl d_WT_feed_1 ?_
  obtain ⟨r10, S10, hc10, hs⟩ := mb2_some hs
  refine jq_cV1 ok hR m_WT_64 (r_Tp_size (jx_l X) D g A0 C0 S  r10 S10  hc10) (sg_atk 1 rfl) rfl rfl rfl (Nat.le_of_ble_eq_true rfl) ⟨Nat.le_of_ble_eq_true rfl, Nat.le_of_ble_eq_true rfl⟩ ⟨Nat.sub_le _ _, Nat.sub_le _ _⟩ d_WT_feed_4 ?_
  show jw X (C0.bc - C0.bc) (C0.bs - C0.bs) (wtL D g A0 C0 S10) [(0, .ref (g 0)), (1, .int (ii v1)), (2, .int (ii v2)), (3, .int (ii v3)), (4, .int (ii v4)), (5, .int (ii v5))] 7 [.int (ii r10)]
  refine jr_ldc (z := 65516) ok w_319 (by decide +kernel) d_WT_feed_7 ?_
  refine jr_wicmp_le 22 ok rfl (show w32 65516 = 65516 by decide) d_WT_feed_9 (by decide) (fun c11 => ?_) (fun c11 => ?_)
  · replace hs := oq_pos c11 hs
    refine jr_aload_n ok 0 d_WT_feed_22 rfl rfl ?_
    refine jr_get (v := .ref (g 1)) ok 0 f_WT_12 rfl rfl d_WT_feed_23 ?_
    refine jr_iload_n ok 1 d_WT_feed_26 rfl rfl ?_
    obtain ⟨r12, e12, S12, hc12, hs⟩ := mb3_some hs
    refine jh_gV0 (Lo := fun A => wtL D g A e12 S12) ok hI hR hcc.1 m_WT_76 (r_Tp_put (jx_l X) D g A0 C0 S10 v1 r12 e12 S12  hc12) (sg_atk 1 rfl) rfl rfl rfl (Nat.le_of_ble_eq_true rfl) ⟨Nat.le_of_ble_eq_true rfl, Nat.le_of_ble_eq_true rfl⟩ d_WT_feed_27 (fun A12 hcb12 hst12 => ?_)
    have hcc12 : (e12.bc ≤ C0.bc ∧ e12.bs ≤ C0.bs) ∧ aS A0 A12 := ⟨hcb12, aS_tr hcc.2 hst12⟩
    show jw X (C0.bc - e12.bc) (C0.bs - e12.bs) (wtL D g A12 e12 S12) [(0, .ref (g 0)), (1, .int (ii v1)), (2, .int (ii v2)), (3, .int (ii v3)), (4, .int (ii v4)), (5, .int (ii v5))] 30 []
    refine jr_aload_n ok 0 d_WT_feed_30 rfl rfl ?_
    refine jr_get (v := .ref (g 1)) ok 0 f_WT_12 rfl rfl d_WT_feed_31 ?_
    refine jr_iload_n ok 2 d_WT_feed_34 rfl rfl ?_
    obtain ⟨r13, e13, S13, hc13, hs⟩ := mb3_some hs
    refine jh_gV0 (Lo := fun A => wtL D g A e13 S13) ok hI hR hcc12.1 m_WT_76 (r_Tp_put (jx_l X) D g A12 e12 S12 v2 r13 e13 S13  hc13) (sg_atk 1 rfl) rfl rfl rfl (Nat.le_of_ble_eq_true rfl) ⟨Nat.le_of_ble_eq_true rfl, Nat.le_of_ble_eq_true rfl⟩ d_WT_feed_35 (fun A13 hcb13 hst13 => ?_)
    have hcc13 : (e13.bc ≤ C0.bc ∧ e13.bs ≤ C0.bs) ∧ aS A0 A13 := ⟨hcb13, aS_tr hcc12.2 hst13⟩
    show jw X (C0.bc - e13.bc) (C0.bs - e13.bs) (wtL D g A13 e13 S13) [(0, .ref (g 0)), (1, .int (ii v1)), (2, .int (ii v2)), (3, .int (ii v3)), (4, .int (ii v4)), (5, .int (ii v5))] 38 []
    refine jr_aload_n ok 0 d_WT_feed_38 rfl rfl ?_
    refine jr_get (v := .ref (g 1)) ok 0 f_WT_12 rfl rfl d_WT_feed_39 ?_
    refine jr_iload_n ok 3 d_WT_feed_42 rfl rfl ?_
    obtain ⟨r14, e14, S14, hc14, hs⟩ := mb3_some hs
    refine jh_gV0 (Lo := fun A => wtL D g A e14 S14) ok hI hR hcc13.1 m_WT_76 (r_Tp_put (jx_l X) D g A13 e13 S13 v3 r14 e14 S14  hc14) (sg_atk 1 rfl) rfl rfl rfl (Nat.le_of_ble_eq_true rfl) ⟨Nat.le_of_ble_eq_true rfl, Nat.le_of_ble_eq_true rfl⟩ d_WT_feed_43 (fun A14 hcb14 hst14 => ?_)
    have hcc14 : (e14.bc ≤ C0.bc ∧ e14.bs ≤ C0.bs) ∧ aS A0 A14 := ⟨hcb14, aS_tr hcc13.2 hst14⟩
    show jw X (C0.bc - e14.bc) (C0.bs - e14.bs) (wtL D g A14 e14 S14) [(0, .ref (g 0)), (1, .int (ii v1)), (2, .int (ii v2)), (3, .int (ii v3)), (4, .int (ii v4)), (5, .int (ii v5))] 46 []
    refine jr_aload_n ok 0 d_WT_feed_46 rfl rfl ?_
    refine jr_get (v := .ref (g 1)) ok 0 f_WT_12 rfl rfl d_WT_feed_47 ?_
    refine jr_iload ok 4 d_WT_feed_50 rfl ?_
    obtain ⟨r15, e15, S15, hc15, hs⟩ := mb3_some hs
    refine jh_gV0 (Lo := fun A => wtL D g A e15 S15) ok hI hR hcc14.1 m_WT_76 (r_Tp_put (jx_l X) D g A14 e14 S14 v4 r15 e15 S15  hc15) (sg_atk 1 rfl) rfl rfl rfl (Nat.le_of_ble_eq_true rfl) ⟨Nat.le_of_ble_eq_true rfl, Nat.le_of_ble_eq_true rfl⟩ d_WT_feed_52 (fun A15 hcb15 hst15 => ?_)
    have hcc15 : (e15.bc ≤ C0.bc ∧ e15.bs ≤ C0.bs) ∧ aS A0 A15 := ⟨hcb15, aS_tr hcc14.2 hst15⟩
    show jw X (C0.bc - e15.bc) (C0.bs - e15.bs) (wtL D g A15 e15 S15) [(0, .ref (g 0)), (1, .int (ii v1)), (2, .int (ii v2)), (3, .int (ii v3)), (4, .int (ii v4)), (5, .int (ii v5))] 55 []
    refine jr_aload_n ok 0 d_WT_feed_55 rfl rfl ?_
    refine jr_get (v := .ref (g 1)) ok 0 f_WT_12 rfl rfl d_WT_feed_56 ?_
    refine jr_iload ok 5 d_WT_feed_59 rfl ?_
    obtain ⟨r16, e16, S16, hc16, hs⟩ := mb3_some hs
    refine jh_gV0 (Lo := fun A => wtL D g A e16 S16) ok hI hR hcc15.1 m_WT_76 (r_Tp_put (jx_l X) D g A15 e15 S15 v5 r16 e16 S16  hc16) (sg_atk 1 rfl) rfl rfl rfl (Nat.le_of_ble_eq_true rfl) ⟨Nat.le_of_ble_eq_true rfl, Nat.le_of_ble_eq_true rfl⟩ d_WT_feed_61 (fun A16 hcb16 hst16 => ?_)
    have hcc16 : (e16.bc ≤ C0.bc ∧ e16.bs ≤ C0.bs) ∧ aS A0 A16 := ⟨hcb16, aS_tr hcc15.2 hst16⟩
    show jw X (C0.bc - e16.bc) (C0.bs - e16.bs) (wtL D g A16 e16 S16) [(0, .ref (g 0)), (1, .int (ii v1)), (2, .int (ii v2)), (3, .int (ii v3)), (4, .int (ii v4)), (5, .int (ii v5))] 64 []
    refine jr_aload_n ok 0 d_WT_feed_64 rfl rfl ?_
    refine jr_get (v := .ref (g 1)) ok 0 f_WT_12 rfl rfl d_WT_feed_65 ?_
    obtain ⟨r17, S17, hc17, hs⟩ := mb2_some hs
    refine jq_cV1 ok hR m_WT_64 (r_Tp_size (jx_l X) D g A16 e16 S16  r17 S17  hc17) (sg_atk 1 rfl) rfl rfl rfl (Nat.le_of_ble_eq_true rfl) ⟨Nat.le_of_ble_eq_true rfl, Nat.le_of_ble_eq_true rfl⟩ ⟨Nat.sub_le _ _, Nat.sub_le _ _⟩ d_WT_feed_68 ?_
    show jw X (C0.bc - e16.bc) (C0.bs - e16.bs) (wtL D g A16 e16 S17) [(0, .ref (g 0)), (1, .int (ii v1)), (2, .int (ii v2)), (3, .int (ii v3)), (4, .int (ii v4)), (5, .int (ii v5))] 71 [.int (ii r17)]
    exact jt_iret (ψ := aS A0) (Lf := wtL D g) (bc := CW.bc) (bs := CW.bs) A16 ok fin hcc16 hs d_WT_feed_71
  · replace hs := oq_neg c11 hs
    obtain ⟨hb18, hs⟩ := oq_if hs
    exact jt_throw (vf := fun _ r => some (.int (ii r))) (ψ := aS A0) (Lf := wtL D g) (bc := CW.bc) (bs := CW.bs) (e := (CW.w_bs (CW.w_bc C0 (C0.bc - 1)) (C0.bs - 6))) (z := 0) (tx := "the tape would be too long") 1 A0 rfl (by decide) rfl hnt ok hTT hnh w_320 w_321 w_15 (by decide +kernel) (by decide +kernel) jTa_73 d_WT_feed_12 d_WT_feed_15 d_WT_feed_16 d_WT_feed_18 d_WT_feed_21 hR ⟨Nat.le_of_ble_eq_true rfl, Nat.le_of_ble_eq_true rfl⟩ hb18 rfl rfl fin hcc hs rfl

def q_WT_end_15 (c : CW)  (S : WS) : Option ((Int × Unit) × CW × WS) := if 1 ≤ c.bc ∧ 6 ≤ c.bs then some ((2, ()), (CW.w_bs (CW.w_bc c (c.bc - 1)) (c.bs - 6)), S) else none

def s_WT_end (C0 : CW) (S : WS) (v1 : Int) : Option ((Int × Unit) × CW × WS) := if w32 v1 < 0 then q_WT_end_15 C0 S else mb2 (s_Tp_size C0 S ) (fun r8 S8 => if w32 v1 ≤ w32 r8 then mb2 (s_Tp_keep C0 S8 v1) (fun r10 S10 => some ((0, ()), C0, S10)) else q_WT_end_15 C0 S8)
set_option maxHeartbeats 4000000 in
set_option maxRecDepth 100000 in
theorem r_WT_end (l : Launch) (hnt : jl_nt l) (D : jd_T) (g : Nat → Nat) (A0 : AW) (C0 : CW) (S : WS) (v1 : Int) (t : Int) (r : Unit) (c9 : CW) (S9 : WS)  (hs : s_WT_end C0 S v1 = some ((t, r), c9, S9)) : jgT_C l D y_WT_end b_WT_end 2 none { frames := 6, cells := C0.bc, slots := C0.bs, locals := 90 } [.ref (g 0), .int (ii v1)] (wtL D g A0 C0 S) (fun q : AW × Nat => (oT t (none) q.2, (c9.bc ≤ C0.bc ∧ c9.bs ≤ C0.bs) ∧ aS A0 q.1, wtL D g q.1 c9 S9 ++ xT D t q.2, C0.bc - c9.bc, C0.bs - c9.bs)) := by
  refine jgT_of rfl (Nat.le_of_ble_eq_true rfl) ?_
  intro X hl hR hN ok hI hTT hnh fin
  subst hl
  have hcc : (C0.bc ≤ C0.bc ∧ C0.bs ≤ C0.bs) ∧ aS A0 A0 := ⟨⟨Nat.le_refl _, Nat.le_refl _⟩, fun _ _ _ => rfl⟩
  have B_15 : ∀ (A : AW) (c : CW) (S : WS), (c.bc ≤ C0.bc ∧ c.bs ≤ C0.bs) ∧ aS A0 A → q_WT_end_15 c S = some ((t, r), c9, S9) → jw X (C0.bc - c.bc) (C0.bs - c.bs) (wtL D g A c S) [] 15 [] := by
    intro A c S hcc hs
    rw [q_WT_end_15] at hs
    obtain ⟨hb6, hs⟩ := oq_if hs
    exact jt_throw (vf := fun _ _ => none) (ψ := aS A0) (Lf := wtL D g) (bc := CW.bc) (bs := CW.bs) (e := (CW.w_bs (CW.w_bc c (c.bc - 1)) (c.bs - 6))) (z := ()) (tx := "the tape has not so many bytes") 2 A rfl (by decide) rfl hnt ok hTT hnh w_415 w_416 w_19 (by decide +kernel) (by decide +kernel) jTa_84 d_WT_end_15 d_WT_end_18 d_WT_end_19 d_WT_end_21 d_WT_end_24 hR ⟨Nat.le_of_ble_eq_true rfl, Nat.le_of_ble_eq_true rfl⟩ hb6 rfl rfl fin hcc hs rfl
  refine jr_widen (cs' := C0.bc - C0.bc) (sl' := C0.bs - C0.bs) (Nat.zero_le _) (Nat.zero_le _) ?_
  show jw X (C0.bc - C0.bc) (C0.bs - C0.bs) (wtL D g A0 C0 S) [(0, .ref (g 0)), (1, .int (ii v1))] 0 []
  rw [s_WT_end] at hs
  refine jr_iload_n ok 1 d_WT_end_0 rfl rfl ?_
  refine jr_wif_lt 15 ok rfl d_WT_end_1 (by decide) (fun c7 => ?_) (fun c7 => ?_)
  · replace hs := oq_pos c7 hs
    exact jr_lv [] rfl (B_15 A0 C0 S hcc hs)
  · replace hs := oq_neg c7 hs
    refine jr_iload_n ok 1 d_WT_end_4 rfl rfl ?_
    refine jr_aload_n ok 0 d_WT_end_5 rfl rfl ?_
    refine jr_get (v := .ref (g 1)) ok 0 f_WT_12 rfl rfl d_WT_end_6 ?_
    obtain ⟨r8, S8, hc8, hs⟩ := mb2_some hs
    refine jq_cV1 ok hR m_WT_64 (r_Tp_size (jx_l X) D g A0 C0 S  r8 S8  hc8) (sg_atk 1 rfl) rfl rfl rfl (Nat.le_of_ble_eq_true rfl) ⟨Nat.le_of_ble_eq_true rfl, Nat.le_of_ble_eq_true rfl⟩ ⟨Nat.sub_le _ _, Nat.sub_le _ _⟩ d_WT_end_9 ?_
    show jw X (C0.bc - C0.bc) (C0.bs - C0.bs) (wtL D g A0 C0 S8) [(0, .ref (g 0)), (1, .int (ii v1))] 12 [.int (ii r8), .int (ii v1)]
    refine jr_wicmp_le 25 ok rfl rfl d_WT_end_12 (by decide) (fun c9 => ?_) (fun c9 => ?_)
    · replace hs := oq_pos c9 hs
      refine jr_aload_n ok 0 d_WT_end_25 rfl rfl ?_
      refine jr_get (v := .ref (g 1)) ok 0 f_WT_12 rfl rfl d_WT_end_26 ?_
      refine jr_iload_n ok 1 d_WT_end_29 rfl rfl ?_
      obtain ⟨r10, S10, hc10, hs⟩ := mb2_some hs
      refine jq_cV0 ok hR m_WT_85 (r_Tp_keep (jx_l X) D g A0 C0 S8 v1 r10 S10  hc10) (sg_atk 1 rfl) rfl rfl rfl (Nat.le_of_ble_eq_true rfl) ⟨Nat.le_of_ble_eq_true rfl, Nat.le_of_ble_eq_true rfl⟩ ⟨Nat.sub_le _ _, Nat.sub_le _ _⟩ d_WT_end_30 ?_
      show jw X (C0.bc - C0.bc) (C0.bs - C0.bs) (wtL D g A0 C0 S10) [(0, .ref (g 0)), (1, .int (ii v1))] 33 []
      exact jt_vret (ψ := aS A0) (Lf := wtL D g) (bc := CW.bc) (bs := CW.bs) A0 ok fin hcc hs d_WT_end_33
    · replace hs := oq_neg c9 hs
      exact jr_lv [] rfl (B_15 A0 C0 S8 hcc hs)

def q_WT_fault_19 (c : CW) (v1 : Int) (S : WS) : Option ((Int × Int) × CW × WS) := if w32 v1 = 0 then some ((0, S.wt_faultCode), c, S) else some ((0, S.wt_faultPlace), c, S)

def s_WT_fault (C0 : CW) (S : WS) (v1 : Int) : Option ((Int × Int) × CW × WS) := if w32 v1 = 0 then q_WT_fault_19 C0 v1 S else if w32 v1 = 1 then q_WT_fault_19 C0 v1 S else if 1 ≤ C0.bc ∧ 6 ≤ C0.bs then some ((3, 0), (CW.w_bs (CW.w_bc C0 (C0.bc - 1)) (C0.bs - 6)), S) else none
set_option maxHeartbeats 4000000 in
set_option maxRecDepth 100000 in
theorem r_WT_fault (l : Launch) (hnt : jl_nt l) (D : jd_T) (g : Nat → Nat) (A0 : AW) (C0 : CW) (S : WS) (v1 : Int) (t : Int) (r : Int) (c9 : CW) (S9 : WS)  (hs : s_WT_fault C0 S v1 = some ((t, r), c9, S9)) : jgT_C l D y_WT_fault b_WT_fault 2 (some .int) { frames := 6, cells := C0.bc, slots := C0.bs, locals := 90 } [.ref (g 0), .int (ii v1)] (wtL D g A0 C0 S) (fun q : AW × Nat => (oT t (some (.int (ii r))) q.2, (c9.bc ≤ C0.bc ∧ c9.bs ≤ C0.bs) ∧ aS A0 q.1, wtL D g q.1 c9 S9 ++ xT D t q.2, C0.bc - c9.bc, C0.bs - c9.bs)) := by
  refine jgT_of rfl (Nat.le_of_ble_eq_true rfl) ?_
  intro X hl hR hN ok hI hTT hnh fin
  subst hl
  have hcc : (C0.bc ≤ C0.bc ∧ C0.bs ≤ C0.bs) ∧ aS A0 A0 := ⟨⟨Nat.le_refl _, Nat.le_refl _⟩, fun _ _ _ => rfl⟩
  have B_19 : ∀ (A : AW) (c : CW) (v1 : Int) (S : WS), (c.bc ≤ C0.bc ∧ c.bs ≤ C0.bs) ∧ aS A0 A → q_WT_fault_19 c v1 S = some ((t, r), c9, S9) → jw X (C0.bc - c.bc) (C0.bs - c.bs) (wtL D g A c S) [(0, .ref (g 0)), (1, .int (ii v1))] 19 [] := by
    intro A c v1 S hcc hs
    rw [q_WT_fault_19] at hs
    refine jr_iload_n ok 1 d_WT_fault_19 rfl rfl ?_
    refine jr_wif_ne 30 ok rfl d_WT_fault_20 (by decide) (fun c5 => ?_) (fun c5 => ?_)
    · replace hs := oq_neg c5 hs
      refine jr_aload_n ok 0 d_WT_fault_30 rfl rfl ?_
      refine jr_get (v := .int (ii S.wt_faultPlace)) ok 0 f_WT_119 rfl rfl d_WT_fault_31 ?_
      exact jt_iret (ψ := aS A0) (Lf := wtL D g) (bc := CW.bc) (bs := CW.bs) A ok fin hcc hs d_WT_fault_34
    · replace hs := oq_pos c5 hs
      refine jr_aload_n ok 0 d_WT_fault_23 rfl rfl ?_
      refine jr_get (v := .int (ii S.wt_faultCode)) ok 0 f_WT_113 rfl rfl d_WT_fault_24 ?_
      refine jr_goto 34 ok d_WT_fault_27 (by decide) ?_
      exact jt_iret (ψ := aS A0) (Lf := wtL D g) (bc := CW.bc) (bs := CW.bs) A ok fin hcc hs d_WT_fault_34
  refine jr_widen (cs' := C0.bc - C0.bc) (sl' := C0.bs - C0.bs) (Nat.zero_le _) (Nat.zero_le _) ?_
  show jw X (C0.bc - C0.bc) (C0.bs - C0.bs) (wtL D g A0 C0 S) [(0, .ref (g 0)), (1, .int (ii v1))] 0 []
  rw [s_WT_fault] at hs
  refine jr_iload_n ok 1 d_WT_fault_0 rfl rfl ?_
  refine jr_wif_eq 19 ok rfl d_WT_fault_1 (by decide) (fun c6 => ?_) (fun c6 => ?_)
  · replace hs := oq_pos c6 hs
    exact jr_lv [0, 1] rfl (B_19 A0 C0 v1 S hcc hs)
  · replace hs := oq_neg c6 hs
    refine jr_iload_n ok 1 d_WT_fault_4 rfl rfl ?_
    refine jr_iconst ok d_WT_fault_5 ?_
    refine jr_wicmp_eq 19 ok rfl (show w32 1 = 1 by decide) d_WT_fault_6 (by decide) (fun c7 => ?_) (fun c7 => ?_)
    · replace hs := oq_pos c7 hs
      exact jr_lv [0, 1] rfl (B_19 A0 C0 v1 S hcc hs)
    · replace hs := oq_neg c7 hs
      obtain ⟨hb8, hs⟩ := oq_if hs
      exact jt_throw (vf := fun _ r => some (.int (ii r))) (ψ := aS A0) (Lf := wtL D g) (bc := CW.bc) (bs := CW.bs) (e := (CW.w_bs (CW.w_bc C0 (C0.bc - 1)) (C0.bs - 6))) (z := 0) (tx := "a fault has a code and a place") 3 A0 rfl (by decide) rfl hnt ok hTT hnh w_585 w_586 w_23 (by decide +kernel) (by decide +kernel) jTa_125 d_WT_fault_9 d_WT_fault_12 d_WT_fault_13 d_WT_fault_15 d_WT_fault_18 hR ⟨Nat.le_of_ble_eq_true rfl, Nat.le_of_ble_eq_true rfl⟩ hb8 rfl rfl fin hcc hs rfl

def s_WT_letter (C0 : CW) (S : WS) (v1 : Int) (v2 : Int) : Option ((Int × Int) × CW × WS) := mb3 (s_WT_existing C0 S v1) (fun q4 e4 S4 => if q4.1 = 0 then (fun r4 => if r4 < e4.N then mb2 (s_Se_letterAt e4 S4 r4 v2) (fun r6 S6 => some ((0, r6), e4, S6)) else none) q4.2 else some ((q4.1, 0), e4, S4))
set_option maxHeartbeats 4000000 in
set_option maxRecDepth 100000 in
theorem r_WT_letter (l : Launch) (hnt : jl_nt l) (D : jd_T) (g : Nat → Nat) (A0 : AW) (C0 : CW) (S : WS) (v1 : Int) (v2 : Int) (t : Int) (r : Int) (c9 : CW) (S9 : WS)  (hs : s_WT_letter C0 S v1 v2 = some ((t, r), c9, S9)) : jgT_C l D y_WT_letter b_WT_letter 3 (some .int) { frames := 7, cells := C0.bc, slots := C0.bs, locals := 112 } [.ref (g 0), .int (ii v1), .int (ii v2)] (wtL D g A0 C0 S) (fun q : AW × Nat => (oT t (some (.int (ii r))) q.2, (c9.bc ≤ C0.bc ∧ c9.bs ≤ C0.bs) ∧ aS A0 q.1, wtL D g q.1 c9 S9 ++ xT D t q.2, C0.bc - c9.bc, C0.bs - c9.bs)) := by
  refine jgT_of rfl (Nat.le_of_ble_eq_true rfl) ?_
  intro X hl hR hN ok hI hTT hnh fin
  subst hl
  have hcc : (C0.bc ≤ C0.bc ∧ C0.bs ≤ C0.bs) ∧ aS A0 A0 := ⟨⟨Nat.le_refl _, Nat.le_refl _⟩, fun _ _ _ => rfl⟩
  refine jr_widen (cs' := C0.bc - C0.bc) (sl' := C0.bs - C0.bs) (Nat.zero_le _) (Nat.zero_le _) ?_
  show jw X (C0.bc - C0.bc) (C0.bs - C0.bs) (wtL D g A0 C0 S) [(0, .ref (g 0)), (1, .int (ii v1)), (2, .int (ii v2))] 0 []
  rw [s_WT_letter] at hs
  refine jr_aload_n ok 0 d_WT_letter_0 rfl rfl ?_
  refine jr_iload_n ok 1 d_WT_letter_1 rfl rfl ?_
  obtain ⟨⟨t4, r4⟩, e4, S4, hc4, hs⟩ := mb3_some hs
  refine jt_callV (vf := fun A => some (.ref (A.us r4 0))) (Lo := fun A => wtL D g A e4 S4) ok hI hTT hR hcc.1 m_WT_126 (r_WT_existing (jx_l X) hnt D g A0 C0 S v1 t4 r4 e4 S4  hc4) (sg_atk 0 rfl) rfl rfl rfl (Nat.le_of_ble_eq_true rfl) ⟨Nat.le_of_ble_eq_true rfl, Nat.le_of_ble_eq_true rfl⟩ d_WT_letter_2 (fun z4 A4 hcb4 hst4 => ?_) (fun z4 A4 x4 hcb4 hst4 => jt_prop (vf := fun _ r => some (.int (ii r))) (ψ := aS A0) (Lf := wtL D g) (bc := CW.bc) (bs := CW.bs) z4 A4 ok hnh fin ⟨hcb4, aS_tr hcc.2 hst4⟩ (oq_neg z4 hs))
  replace hs := oq_pos z4 hs
  have hcc4 : (e4.bc ≤ C0.bc ∧ e4.bs ≤ C0.bs) ∧ aS A0 A4 := ⟨hcb4, aS_tr hcc.2 hst4⟩
  obtain ⟨hb5, hs⟩ := oq_if hs
  show jw X (C0.bc - e4.bc) (C0.bs - e4.bs) (wtL D g A4 e4 S4) [(0, .ref (g 0)), (1, .int (ii v1)), (2, .int (ii v2))] 5 [.ref (A4.us r4 0)]
  refine jr_iload_n ok 2 d_WT_letter_5 rfl rfl ?_
  obtain ⟨r6, S6, hc6, hs⟩ := mb2_some hs
  refine jq_cV1 ok hR m_WT_130 (r_Se_letterAt (jx_l X) D g A4 e4 S4 r4 v2 r6 S6 hb5 hc6) (sg_atp (F := serW D A4 e4 S4) 5 rfl hb5 0 rfl) rfl rfl rfl (Nat.le_of_ble_eq_true rfl) ⟨Nat.le_of_ble_eq_true rfl, Nat.le_of_ble_eq_true rfl⟩ ⟨Nat.sub_le _ _, Nat.sub_le _ _⟩ d_WT_letter_6 ?_
  show jw X (C0.bc - e4.bc) (C0.bs - e4.bs) (wtL D g A4 e4 S6) [(0, .ref (g 0)), (1, .int (ii v1)), (2, .int (ii v2))] 9 [.int (ii r6)]
  exact jt_iret (ψ := aS A0) (Lf := wtL D g) (bc := CW.bc) (bs := CW.bs) A4 ok fin hcc4 hs d_WT_letter_9

def s_WT_append (C0 : CW) (S : WS) (v1 : Int) (v2 : Int64) (v4 : Int64) : Option ((Int × Int) × CW × WS) := mb3 (s_WT_existing C0 S v1) (fun q14 e14 S14 => if q14.1 = 0 then (fun r14 => if r14 < e14.N then mb2 (s_Se_points e14 S14 r14) (fun r16 S16 => if r16 < e14.N then mb2 (s_St_mayCome e14 S16 r16 v2) (fun r18 S18 => if w32 r18 = 0 then if 1 ≤ e14.bc ∧ 6 ≤ e14.bs then some ((2, 0), (CW.w_bs (CW.w_bc e14 (e14.bc - 1)) (e14.bs - 6)), S18) else none else mb2 (s_St_headIsFull e14 S18 ) (fun r20 S20 => if w32 r20 = 0 then mb3 (s_St_putPoint e14 S20 r16 v2 v4) (fun r22 e22 S22 => if r16 < e22.N then mb2 (s_St_headSize e22 S22 ) (fun r24 S24 => some ((0, r24), e22, S24)) else none) else if 1 ≤ e14.bc ∧ 6 ≤ e14.bs then some ((1, 0), (CW.w_bs (CW.w_bc e14 (e14.bc - 1)) (e14.bs - 6)), S20) else none)) else none) else none) q14.2 else some ((q14.1, 0), e14, S14))
set_option maxHeartbeats 4000000 in
set_option maxRecDepth 100000 in
theorem r_WT_append (l : Launch) (hnt : jl_nt l) (D : jd_T) (g : Nat → Nat) (A0 : AW) (C0 : CW) (S : WS) (v1 : Int) (v2 : Int64) (v4 : Int64) (t : Int) (r : Int) (c9 : CW) (S9 : WS)  (hs : s_WT_append C0 S v1 v2 v4 = some ((t, r), c9, S9)) : jgT_C l D y_WT_append b_WT_append 7 (some .int) { frames := 7, cells := C0.bc, slots := C0.bs, locals := 112 } [.ref (g 0), .int (ii v1), .long v2, .long v4] (wtL D g A0 C0 S) (fun q : AW × Nat => (oT t (some (.int (ii r))) q.2, (c9.bc ≤ C0.bc ∧ c9.bs ≤ C0.bs) ∧ aS A0 q.1, wtL D g q.1 c9 S9 ++ xT D t q.2, C0.bc - c9.bc, C0.bs - c9.bs)) := by
  refine jgT_of rfl (Nat.le_of_ble_eq_true rfl) ?_
  intro X hl hR hN ok hI hTT hnh fin
  subst hl
  have hcc : (C0.bc ≤ C0.bc ∧ C0.bs ≤ C0.bs) ∧ aS A0 A0 := ⟨⟨Nat.le_refl _, Nat.le_refl _⟩, fun _ _ _ => rfl⟩
  refine jr_widen (cs' := C0.bc - C0.bc) (sl' := C0.bs - C0.bs) (Nat.zero_le _) (Nat.zero_le _) ?_
  show jw X (C0.bc - C0.bc) (C0.bs - C0.bs) (wtL D g A0 C0 S) [(0, .ref (g 0)), (1, .int (ii v1)), (2, .long v2), (4, .long v4)] 0 []
  rw [s_WT_append] at hs
  refine jr_aload_n ok 0 d_WT_append_0 rfl rfl ?_
  refine jr_iload_n ok 1 d_WT_append_1 rfl rfl ?_
  obtain ⟨⟨t14, r14⟩, e14, S14, hc14, hs⟩ := mb3_some hs
  refine jt_callV (vf := fun A => some (.ref (A.us r14 0))) (Lo := fun A => wtL D g A e14 S14) ok hI hTT hR hcc.1 m_WT_126 (r_WT_existing (jx_l X) hnt D g A0 C0 S v1 t14 r14 e14 S14  hc14) (sg_atk 0 rfl) rfl rfl rfl (Nat.le_of_ble_eq_true rfl) ⟨Nat.le_of_ble_eq_true rfl, Nat.le_of_ble_eq_true rfl⟩ d_WT_append_2 (fun z14 A14 hcb14 hst14 => ?_) (fun z14 A14 x14 hcb14 hst14 => jt_prop (vf := fun _ r => some (.int (ii r))) (ψ := aS A0) (Lf := wtL D g) (bc := CW.bc) (bs := CW.bs) z14 A14 ok hnh fin ⟨hcb14, aS_tr hcc.2 hst14⟩ (oq_neg z14 hs))
  replace hs := oq_pos z14 hs
  have hcc14 : (e14.bc ≤ C0.bc ∧ e14.bs ≤ C0.bs) ∧ aS A0 A14 := ⟨hcb14, aS_tr hcc.2 hst14⟩
  obtain ⟨hb15, hs⟩ := oq_if hs
  show jw X (C0.bc - e14.bc) (C0.bs - e14.bs) (wtL D g A14 e14 S14) [(0, .ref (g 0)), (1, .int (ii v1)), (2, .long v2), (4, .long v4)] 5 [.ref (A14.us r14 0)]
  obtain ⟨r16, S16, hc16, hs⟩ := mb2_some hs
  refine jq_cV1 ok hR m_WT_136 (r_Se_points (jx_l X) D g A14 e14 S14 r14 r16 S16 hb15 hc16) (sg_atp (F := serW D A14 e14 S14) 5 rfl hb15 0 rfl) rfl rfl rfl (Nat.le_of_ble_eq_true rfl) ⟨Nat.le_of_ble_eq_true rfl, Nat.le_of_ble_eq_true rfl⟩ ⟨Nat.sub_le _ _, Nat.sub_le _ _⟩ d_WT_append_5 ?_
  obtain ⟨hb17, hs⟩ := oq_if hs
  show jw X (C0.bc - e14.bc) (C0.bs - e14.bs) (wtL D g A14 e14 S16) [(0, .ref (g 0)), (1, .int (ii v1)), (2, .long v2), (4, .long v4)] 8 [.ref (A14.us r16 5)]
  refine jr_astore [(6, .ref (A14.us r16 5)), (0, .ref (g 0)), (1, .int (ii v1)), (2, .long v2), (4, .long v4)] ok d_WT_append_8 (by rw [hN]; decide) rfl ?_
  refine jr_aload_n ok 1 d_WT_append_10 rfl rfl ?_
  refine jr_get (v := .ref (g 2)) ok 0 f_WT_19 rfl rfl d_WT_append_11 ?_
  refine jr_aload ok 0 d_WT_append_14 rfl ?_
  refine jr_lload_n ok 3 d_WT_append_16 rfl rfl ?_
  obtain ⟨r18, S18, hc18, hs⟩ := mb2_some hs
  refine jq_cV1 ok hR m_WT_140 (r_St_mayCome (jx_l X) D g A14 e14 S16 r16 v2 r18 S18 hb17 hc18) (sg_atk 3 rfl) rfl rfl rfl (Nat.le_of_ble_eq_true rfl) ⟨Nat.le_of_ble_eq_true rfl, Nat.le_of_ble_eq_true rfl⟩ ⟨Nat.sub_le _ _, Nat.sub_le _ _⟩ d_WT_append_17 ?_
  show jw X (C0.bc - e14.bc) (C0.bs - e14.bs) (wtL D g A14 e14 S18) [(6, .ref (A14.us r16 5)), (0, .ref (g 0)), (1, .int (ii v1)), (2, .long v2), (4, .long v4)] 20 [.int (ii r18)]
  refine jr_wif_ne 33 ok rfl d_WT_append_20 (by decide) (fun c19 => ?_) (fun c19 => ?_)
  · replace hs := oq_neg c19 hs
    refine jr_aload_n ok 1 d_WT_append_33 rfl rfl ?_
    refine jr_get (v := .ref (g 2)) ok 0 f_WT_19 rfl rfl d_WT_append_34 ?_
    obtain ⟨r20, S20, hc20, hs⟩ := mb2_some hs
    refine jq_cV1 ok hR m_WT_146 (r_St_headIsFull (jx_l X) D g A14 e14 S18  r20 S20  hc20) (sg_atk 3 rfl) rfl rfl rfl (Nat.le_of_ble_eq_true rfl) ⟨Nat.le_of_ble_eq_true rfl, Nat.le_of_ble_eq_true rfl⟩ ⟨Nat.sub_le _ _, Nat.sub_le _ _⟩ d_WT_append_37 ?_
    show jw X (C0.bc - e14.bc) (C0.bs - e14.bs) (wtL D g A14 e14 S20) [(6, .ref (A14.us r16 5)), (0, .ref (g 0)), (1, .int (ii v1)), (2, .long v2), (4, .long v4)] 40 [.int (ii r20)]
    refine jr_wif_eq 53 ok rfl d_WT_append_40 (by decide) (fun c21 => ?_) (fun c21 => ?_)
    · replace hs := oq_pos c21 hs
      refine jr_aload_n ok 1 d_WT_append_53 rfl rfl ?_
      refine jr_get (v := .ref (g 2)) ok 0 f_WT_19 rfl rfl d_WT_append_54 ?_
      refine jr_aload ok 0 d_WT_append_57 rfl ?_
      refine jr_lload_n ok 3 d_WT_append_59 rfl rfl ?_
      refine jr_lload ok 4 d_WT_append_60 rfl ?_
      obtain ⟨r22, e22, S22, hc22, hs⟩ := mb3_some hs
      refine jh_gV0 (Lo := fun A => wtL D g A e22 S22) ok hI hR hcc14.1 m_WT_151 (r_St_putPoint (jx_l X) D g A14 e14 S20 r16 v2 v4 r22 e22 S22 hb17 hc22) (sg_atk 3 rfl) rfl rfl rfl (Nat.le_of_ble_eq_true rfl) ⟨Nat.le_of_ble_eq_true rfl, Nat.le_of_ble_eq_true rfl⟩ d_WT_append_62 (fun A22 hcb22 hst22 => ?_)
      have hcc22 : (e22.bc ≤ C0.bc ∧ e22.bs ≤ C0.bs) ∧ aS A0 A22 := ⟨hcb22, aS_tr hcc14.2 hst22⟩
      rw [← hst22 r16 5 (by decide)]
      obtain ⟨hb23, hs⟩ := oq_if hs
      show jw X (C0.bc - e22.bc) (C0.bs - e22.bs) (wtL D g A22 e22 S22) [(6, .ref (A22.us r16 5)), (0, .ref (g 0)), (1, .int (ii v1)), (2, .long v2), (4, .long v4)] 65 []
      refine jr_aload_n ok 1 d_WT_append_65 rfl rfl ?_
      refine jr_get (v := .ref (g 2)) ok 0 f_WT_19 rfl rfl d_WT_append_66 ?_
      obtain ⟨r24, S24, hc24, hs⟩ := mb2_some hs
      refine jq_cV1 ok hR m_WT_155 (r_St_headSize (jx_l X) D g A22 e22 S22  r24 S24  hc24) (sg_atk 3 rfl) rfl rfl rfl (Nat.le_of_ble_eq_true rfl) ⟨Nat.le_of_ble_eq_true rfl, Nat.le_of_ble_eq_true rfl⟩ ⟨Nat.sub_le _ _, Nat.sub_le _ _⟩ d_WT_append_69 ?_
      show jw X (C0.bc - e22.bc) (C0.bs - e22.bs) (wtL D g A22 e22 S24) [(6, .ref (A22.us r16 5)), (0, .ref (g 0)), (1, .int (ii v1)), (2, .long v2), (4, .long v4)] 72 [.int (ii r24)]
      exact jt_iret (ψ := aS A0) (Lf := wtL D g) (bc := CW.bc) (bs := CW.bs) A22 ok fin hcc22 hs d_WT_append_72
    · replace hs := oq_neg c21 hs
      obtain ⟨hb25, hs⟩ := oq_if hs
      exact jt_throw (vf := fun _ r => some (.int (ii r))) (ψ := aS A0) (Lf := wtL D g) (bc := CW.bc) (bs := CW.bs) (e := (CW.w_bs (CW.w_bc e14 (e14.bc - 1)) (e14.bs - 6))) (z := 0) (tx := "there are 4096 points in the head") 1 A14 rfl (by decide) rfl hnt ok hTT hnh w_320 w_321 w_15 (by decide +kernel) (by decide +kernel) jTa_73 d_WT_append_43 d_WT_append_46 d_WT_append_47 d_WT_append_49 d_WT_append_52 hR ⟨Nat.le_of_ble_eq_true rfl, Nat.le_of_ble_eq_true rfl⟩ hb25 rfl rfl fin hcc14 hs rfl
  · replace hs := oq_pos c19 hs
    obtain ⟨hb26, hs⟩ := oq_if hs
    exact jt_throw (vf := fun _ r => some (.int (ii r))) (ψ := aS A0) (Lf := wtL D g) (bc := CW.bc) (bs := CW.bs) (e := (CW.w_bs (CW.w_bc e14 (e14.bc - 1)) (e14.bs - 6))) (z := 0) (tx := "no time, or not above the last one, or below the horizon") 2 A14 rfl (by decide) rfl hnt ok hTT hnh w_415 w_416 w_19 (by decide +kernel) (by decide +kernel) jTa_84 d_WT_append_23 d_WT_append_26 d_WT_append_27 d_WT_append_29 d_WT_append_32 hR ⟨Nat.le_of_ble_eq_true rfl, Nat.le_of_ble_eq_true rfl⟩ hb26 rfl rfl fin hcc14 hs rfl

def q_WT_bulk_97 (c : CW) (v3 : Int) (S : WS) : Option ((Int × Int) × CW × WS) := mb2 (s_Tp_keep c S 0) (fun r26 S26 => some ((0, v3), c, S26))

def q_WT_bulk_14 : Nat → CW → Nat → Int → Int → WS → Option ((Int × Int) × CW × WS)
  | 0, _, _, _, _, _ => none
  | n + 1, c, v2, v3, v4, S => mb2 (s_Tp_size c S ) (fun r16 S16 => if w32 r16 < w32 (v4 + 16) then q_WT_bulk_97 c v3 S16 else mb2 (s_Tp_longAt c S16 v4) (fun r18 S18 => mb2 (s_St_mayCome c S18 v2 r18) (fun r19 S19 => if w32 r19 = 0 then q_WT_bulk_97 c v3 S19 else mb2 (s_St_headIsFull c S19 ) (fun r21 S21 => if w32 r21 = 0 then mb2 (s_Tp_longAt c S21 (v4 + 8)) (fun r23 S23 => mb3 (s_St_putPoint c S23 v2 r18 r23) (fun r24 e24 S24 => if v2 < e24.N then (q_WT_bulk_14 n) e24 v2 (v3 + 1) (v4 + 16) S24 else none)) else q_WT_bulk_97 c v3 S21))))

def s_WT_bulk (C0 : CW) (S : WS) (v1 : Int) : Option ((Int × Int) × CW × WS) := mb3 (s_WT_existing C0 S v1) (fun q27 e27 S27 => if q27.1 = 0 then (fun r27 => if r27 < e27.N then mb2 (s_Se_points e27 S27 r27) (fun r29 S29 => if r29 < e27.N then q_WT_bulk_14 fU e27 r29 0 0 S29 else none) else none) q27.2 else some ((q27.1, 0), e27, S27))
set_option maxHeartbeats 4000000 in
set_option maxRecDepth 100000 in
theorem r_WT_bulk (l : Launch) (hnt : jl_nt l) (D : jd_T) (g : Nat → Nat) (A0 : AW) (C0 : CW) (S : WS) (v1 : Int) (t : Int) (r : Int) (c9 : CW) (S9 : WS)  (hs : s_WT_bulk C0 S v1 = some ((t, r), c9, S9)) : jgT_C l D y_WT_bulk b_WT_bulk 7 (some .int) { frames := 7, cells := C0.bc, slots := C0.bs, locals := 112 } [.ref (g 0), .int (ii v1)] (wtL D g A0 C0 S) (fun q : AW × Nat => (oT t (some (.int (ii r))) q.2, (c9.bc ≤ C0.bc ∧ c9.bs ≤ C0.bs) ∧ aS A0 q.1, wtL D g q.1 c9 S9 ++ xT D t q.2, C0.bc - c9.bc, C0.bs - c9.bs)) := by
  refine jgT_of rfl (Nat.le_of_ble_eq_true rfl) ?_
  intro X hl hR hN ok hI hTT hnh fin
  subst hl
  have hcc : (C0.bc ≤ C0.bc ∧ C0.bs ≤ C0.bs) ∧ aS A0 A0 := ⟨⟨Nat.le_refl _, Nat.le_refl _⟩, fun _ _ _ => rfl⟩
  have B_97 : ∀ (A : AW) (c : CW) (v3 : Int) (S : WS), (c.bc ≤ C0.bc ∧ c.bs ≤ C0.bs) ∧ aS A0 A → q_WT_bulk_97 c v3 S = some ((t, r), c9, S9) → jw X (C0.bc - c.bc) (C0.bs - c.bs) (wtL D g A c S) [(0, .ref (g 0)), (3, .int (ii v3))] 97 [] := by
    intro A c v3 S hcc hs
    rw [q_WT_bulk_97] at hs
    refine jr_aload_n ok 0 d_WT_bulk_97 rfl rfl ?_
    refine jr_get (v := .ref (g 1)) ok 0 f_WT_12 rfl rfl d_WT_bulk_98 ?_
    refine jr_iconst ok d_WT_bulk_101 ?_
    obtain ⟨r26, S26, hc26, hs⟩ := mb2_some hs
    refine jq_cV0 ok hR m_WT_85 (r_Tp_keep (jx_l X) D g A c S 0 r26 S26  hc26) (sg_atk 1 rfl) rfl rfl rfl (Nat.le_of_ble_eq_true rfl) ⟨Nat.le_of_ble_eq_true rfl, Nat.le_of_ble_eq_true rfl⟩ ⟨Nat.sub_le _ _, Nat.sub_le _ _⟩ d_WT_bulk_102 ?_
    show jw X (C0.bc - c.bc) (C0.bs - c.bs) (wtL D g A c S26) [(0, .ref (g 0)), (3, .int (ii v3))] 105 []
    refine jr_iload_n ok 1 d_WT_bulk_105 rfl rfl ?_
    exact jt_iret (ψ := aS A0) (Lf := wtL D g) (bc := CW.bc) (bs := CW.bs) A ok fin hcc hs d_WT_bulk_106
  have B_14 : ∀ (n14 : Nat), ∀ (A : AW) (c : CW) (v2 : Nat) (v3 : Int) (v4 : Int) (S : WS), (c.bc ≤ C0.bc ∧ c.bs ≤ C0.bs) ∧ aS A0 A → v2 < c.N → q_WT_bulk_14 n14 c v2 v3 v4 S = some ((t, r), c9, S9) → jw X (C0.bc - c.bc) (C0.bs - c.bs) (wtL D g A c S) [(0, .ref (g 0)), (2, .ref (A.us v2 5)), (3, .int (ii v3)), (4, .int (ii v4))] 14 [] := by
    intro n14
    induction n14 with
    | zero =>
      intro A c v2 v3 v4 S hcc hv2 hs
      rw [q_WT_bulk_14] at hs; cases hs
    | succ n14 ih14 =>
      intro A c v2 v3 v4 S hcc hv2 hs
      rw [q_WT_bulk_14] at hs
      refine jr_iload ok 3 d_WT_bulk_14 rfl ?_
      refine jr_bipush ok d_WT_bulk_16 (by decide +kernel) ?_
      refine jr_iadd ok d_WT_bulk_18 ?_
      refine jr_aload_n ok 0 d_WT_bulk_19 rfl rfl ?_
      refine jr_get (v := .ref (g 1)) ok 0 f_WT_12 rfl rfl d_WT_bulk_20 ?_
      obtain ⟨r16, S16, hc16, hs⟩ := mb2_some hs
      refine jq_cV1 ok hR m_WT_64 (r_Tp_size (jx_l X) D g A c S  r16 S16  hc16) (sg_atk 1 rfl) rfl rfl rfl (Nat.le_of_ble_eq_true rfl) ⟨Nat.le_of_ble_eq_true rfl, Nat.le_of_ble_eq_true rfl⟩ ⟨Nat.sub_le _ _, Nat.sub_le _ _⟩ d_WT_bulk_23 ?_
      show jw X (C0.bc - c.bc) (C0.bs - c.bs) (wtL D g A c S16) [(0, .ref (g 0)), (2, .ref (A.us v2 5)), (3, .int (ii v3)), (4, .int (ii v4))] 26 [.int (ii r16), .int (ii (v4 + 16))]
      refine jr_wicmp_gt 97 ok rfl rfl d_WT_bulk_26 (by decide) (fun c17 => ?_) (fun c17 => ?_)
      · replace hs := oq_pos c17 hs
        exact jr_lv [0, 2] rfl (B_97 A c v3 S16 hcc hs)
      · replace hs := oq_neg c17 hs
        refine jr_aload_n ok 0 d_WT_bulk_29 rfl rfl ?_
        refine jr_get (v := .ref (g 1)) ok 0 f_WT_12 rfl rfl d_WT_bulk_30 ?_
        refine jr_iload ok 3 d_WT_bulk_33 rfl ?_
        obtain ⟨r18, S18, hc18, hs⟩ := mb2_some hs
        refine jq_cV1 ok hR m_WT_158 (r_Tp_longAt (jx_l X) D g A c S16 v4 r18 S18  hc18) (sg_atk 1 rfl) rfl rfl rfl (Nat.le_of_ble_eq_true rfl) ⟨Nat.le_of_ble_eq_true rfl, Nat.le_of_ble_eq_true rfl⟩ ⟨Nat.sub_le _ _, Nat.sub_le _ _⟩ d_WT_bulk_35 ?_
        show jw X (C0.bc - c.bc) (C0.bs - c.bs) (wtL D g A c S18) [(0, .ref (g 0)), (2, .ref (A.us v2 5)), (3, .int (ii v3)), (4, .int (ii v4))] 38 [.long r18]
        refine jr_lstore [(5, .long r18), (0, .ref (g 0)), (2, .ref (A.us v2 5)), (3, .int (ii v3)), (4, .int (ii v4))] ok d_WT_bulk_38 (by rw [hN]; decide) rfl ?_
        refine jr_aload_n ok 1 d_WT_bulk_40 rfl rfl ?_
        refine jr_get (v := .ref (g 2)) ok 0 f_WT_19 rfl rfl d_WT_bulk_41 ?_
        refine jr_aload_n ok 2 d_WT_bulk_44 rfl rfl ?_
        refine jr_lload ok 0 d_WT_bulk_45 rfl ?_
        obtain ⟨r19, S19, hc19, hs⟩ := mb2_some hs
        refine jq_cV1 ok hR m_WT_140 (r_St_mayCome (jx_l X) D g A c S18 v2 r18 r19 S19 hv2 hc19) (sg_atk 3 rfl) rfl rfl rfl (Nat.le_of_ble_eq_true rfl) ⟨Nat.le_of_ble_eq_true rfl, Nat.le_of_ble_eq_true rfl⟩ ⟨Nat.sub_le _ _, Nat.sub_le _ _⟩ d_WT_bulk_47 ?_
        show jw X (C0.bc - c.bc) (C0.bs - c.bs) (wtL D g A c S19) [(5, .long r18), (0, .ref (g 0)), (2, .ref (A.us v2 5)), (3, .int (ii v3)), (4, .int (ii v4))] 50 [.int (ii r19)]
        refine jr_wif_eq 97 ok rfl d_WT_bulk_50 (by decide) (fun c20 => ?_) (fun c20 => ?_)
        · replace hs := oq_pos c20 hs
          exact jr_lv [1, 3] rfl (B_97 A c v3 S19 hcc hs)
        · replace hs := oq_neg c20 hs
          refine jr_aload_n ok 1 d_WT_bulk_53 rfl rfl ?_
          refine jr_get (v := .ref (g 2)) ok 0 f_WT_19 rfl rfl d_WT_bulk_54 ?_
          obtain ⟨r21, S21, hc21, hs⟩ := mb2_some hs
          refine jq_cV1 ok hR m_WT_146 (r_St_headIsFull (jx_l X) D g A c S19  r21 S21  hc21) (sg_atk 3 rfl) rfl rfl rfl (Nat.le_of_ble_eq_true rfl) ⟨Nat.le_of_ble_eq_true rfl, Nat.le_of_ble_eq_true rfl⟩ ⟨Nat.sub_le _ _, Nat.sub_le _ _⟩ d_WT_bulk_57 ?_
          show jw X (C0.bc - c.bc) (C0.bs - c.bs) (wtL D g A c S21) [(5, .long r18), (0, .ref (g 0)), (2, .ref (A.us v2 5)), (3, .int (ii v3)), (4, .int (ii v4))] 60 [.int (ii r21)]
          refine jr_wif_eq 66 ok rfl d_WT_bulk_60 (by decide) (fun c22 => ?_) (fun c22 => ?_)
          · replace hs := oq_pos c22 hs
            refine jr_aload_n ok 1 d_WT_bulk_66 rfl rfl ?_
            refine jr_get (v := .ref (g 2)) ok 0 f_WT_19 rfl rfl d_WT_bulk_67 ?_
            refine jr_aload_n ok 2 d_WT_bulk_70 rfl rfl ?_
            refine jr_lload ok 0 d_WT_bulk_71 rfl ?_
            refine jr_aload_n ok 1 d_WT_bulk_73 rfl rfl ?_
            refine jr_get (v := .ref (g 1)) ok 0 f_WT_12 rfl rfl d_WT_bulk_74 ?_
            refine jr_iload ok 4 d_WT_bulk_77 rfl ?_
            refine jr_bipush ok d_WT_bulk_79 (by decide +kernel) ?_
            refine jr_iadd ok d_WT_bulk_81 ?_
            obtain ⟨r23, S23, hc23, hs⟩ := mb2_some hs
            refine jq_cV1 ok hR m_WT_158 (r_Tp_longAt (jx_l X) D g A c S21 (v4 + 8) r23 S23  hc23) (sg_atk 1 rfl) rfl rfl rfl (Nat.le_of_ble_eq_true rfl) ⟨Nat.le_of_ble_eq_true rfl, Nat.le_of_ble_eq_true rfl⟩ ⟨Nat.sub_le _ _, Nat.sub_le _ _⟩ d_WT_bulk_82 ?_
            show jw X (C0.bc - c.bc) (C0.bs - c.bs) (wtL D g A c S23) [(5, .long r18), (0, .ref (g 0)), (2, .ref (A.us v2 5)), (3, .int (ii v3)), (4, .int (ii v4))] 85 [.long r23, .long r18, .ref (A.us v2 5), .ref (g 2)]
            obtain ⟨r24, e24, S24, hc24, hs⟩ := mb3_some hs
            refine jh_gV0 (Lo := fun A => wtL D g A e24 S24) ok hI hR hcc.1 m_WT_151 (r_St_putPoint (jx_l X) D g A c S23 v2 r18 r23 r24 e24 S24 hv2 hc24) (sg_atk 3 rfl) rfl rfl rfl (Nat.le_of_ble_eq_true rfl) ⟨Nat.le_of_ble_eq_true rfl, Nat.le_of_ble_eq_true rfl⟩ d_WT_bulk_85 (fun A24 hcb24 hst24 => ?_)
            have hcc24 : (e24.bc ≤ C0.bc ∧ e24.bs ≤ C0.bs) ∧ aS A0 A24 := ⟨hcb24, aS_tr hcc.2 hst24⟩
            rw [← hst24 v2 5 (by decide)]
            obtain ⟨hb25, hs⟩ := oq_if hs
            show jw X (C0.bc - e24.bc) (C0.bs - e24.bs) (wtL D g A24 e24 S24) [(5, .long r18), (0, .ref (g 0)), (2, .ref (A24.us v2 5)), (3, .int (ii v3)), (4, .int (ii v4))] 88 []
            refine jr_iinc [(3, .int (ii (v3 + 1))), (5, .long r18), (0, .ref (g 0)), (2, .ref (A24.us v2 5)), (4, .int (ii v4))] 3 ok d_WT_bulk_88 rfl (by rw [hN]; decide) rfl ?_
            refine jr_iinc [(4, .int (ii (v4 + 16))), (3, .int (ii (v3 + 1))), (5, .long r18), (0, .ref (g 0)), (2, .ref (A24.us v2 5))] 4 ok d_WT_bulk_91 rfl (by rw [hN]; decide) rfl ?_
            refine jr_goto 14 ok d_WT_bulk_94 (by decide) ?_
            exact jr_lv [3, 4, 1, 0] rfl (ih14 A24 e24 v2 (v3 + 1) (v4 + 16) S24 hcc24 hb25 hs)
          · replace hs := oq_neg c22 hs
            refine jr_goto 97 ok d_WT_bulk_63 (by decide) ?_
            exact jr_lv [1, 3] rfl (B_97 A c v3 S21 hcc hs)
  refine jr_widen (cs' := C0.bc - C0.bc) (sl' := C0.bs - C0.bs) (Nat.zero_le _) (Nat.zero_le _) ?_
  show jw X (C0.bc - C0.bc) (C0.bs - C0.bs) (wtL D g A0 C0 S) [(0, .ref (g 0)), (1, .int (ii v1))] 0 []
  rw [s_WT_bulk] at hs
  refine jr_aload_n ok 0 d_WT_bulk_0 rfl rfl ?_
  refine jr_iload_n ok 1 d_WT_bulk_1 rfl rfl ?_
  obtain ⟨⟨t27, r27⟩, e27, S27, hc27, hs⟩ := mb3_some hs
  refine jt_callV (vf := fun A => some (.ref (A.us r27 0))) (Lo := fun A => wtL D g A e27 S27) ok hI hTT hR hcc.1 m_WT_126 (r_WT_existing (jx_l X) hnt D g A0 C0 S v1 t27 r27 e27 S27  hc27) (sg_atk 0 rfl) rfl rfl rfl (Nat.le_of_ble_eq_true rfl) ⟨Nat.le_of_ble_eq_true rfl, Nat.le_of_ble_eq_true rfl⟩ d_WT_bulk_2 (fun z27 A27 hcb27 hst27 => ?_) (fun z27 A27 x27 hcb27 hst27 => jt_prop (vf := fun _ r => some (.int (ii r))) (ψ := aS A0) (Lf := wtL D g) (bc := CW.bc) (bs := CW.bs) z27 A27 ok hnh fin ⟨hcb27, aS_tr hcc.2 hst27⟩ (oq_neg z27 hs))
  replace hs := oq_pos z27 hs
  have hcc27 : (e27.bc ≤ C0.bc ∧ e27.bs ≤ C0.bs) ∧ aS A0 A27 := ⟨hcb27, aS_tr hcc.2 hst27⟩
  obtain ⟨hb28, hs⟩ := oq_if hs
  show jw X (C0.bc - e27.bc) (C0.bs - e27.bs) (wtL D g A27 e27 S27) [(0, .ref (g 0)), (1, .int (ii v1))] 5 [.ref (A27.us r27 0)]
  obtain ⟨r29, S29, hc29, hs⟩ := mb2_some hs
  refine jq_cV1 ok hR m_WT_136 (r_Se_points (jx_l X) D g A27 e27 S27 r27 r29 S29 hb28 hc29) (sg_atp (F := serW D A27 e27 S27) 5 rfl hb28 0 rfl) rfl rfl rfl (Nat.le_of_ble_eq_true rfl) ⟨Nat.le_of_ble_eq_true rfl, Nat.le_of_ble_eq_true rfl⟩ ⟨Nat.sub_le _ _, Nat.sub_le _ _⟩ d_WT_bulk_5 ?_
  obtain ⟨hb30, hs⟩ := oq_if hs
  show jw X (C0.bc - e27.bc) (C0.bs - e27.bs) (wtL D g A27 e27 S29) [(0, .ref (g 0)), (1, .int (ii v1))] 8 [.ref (A27.us r29 5)]
  refine jr_astore_n [(2, .ref (A27.us r29 5)), (0, .ref (g 0)), (1, .int (ii v1))] ok d_WT_bulk_8 rfl (by rw [hN]; decide) rfl ?_
  refine jr_iconst ok d_WT_bulk_9 ?_
  refine jr_istore_n [(3, .int (ii 0)), (2, .ref (A27.us r29 5)), (0, .ref (g 0)), (1, .int (ii v1))] ok d_WT_bulk_10 rfl (by rw [hN]; decide) rfl ?_
  refine jr_iconst ok d_WT_bulk_11 ?_
  refine jr_istore [(4, .int (ii 0)), (3, .int (ii 0)), (2, .ref (A27.us r29 5)), (0, .ref (g 0)), (1, .int (ii v1))] ok d_WT_bulk_12 (by rw [hN]; decide) rfl ?_
  exact jr_lv [3, 2, 1, 0] rfl (B_14 fU A27 e27 r29 0 0 S29 hcc27 hb30 hs)

def q_WT_delete_110 (c : CW) (v6 : Nat) (v7 : Int) (v8 : Int) (S : WS) : Option ((Int × Int) × CW × WS) := mb2 (s_St_letGo c S v6 v7 v8) (fun r24 S24 => some ((0, r24), c, S24))

def q_WT_delete_98 (c : CW) (v6 : Nat) (v7 : Int) (v8 : Int) (v9 : Int) (S : WS) : Option ((Int × Int) × CW × WS) := if w32 v9 = 0 then q_WT_delete_110 c v6 v7 v8 S else mb2 (s_St_addScar c S ) (fun r23 S23 => q_WT_delete_110 c v6 v7 v8 S23)

def q_WT_delete_69 (c : CW) (v6 : Nat) (v7 : Int) (v8 : Int) (t0 : Int) (S : WS) : Option ((Int × Int) × CW × WS) := if w32 t0 = 0 then q_WT_delete_98 c v6 v7 v8 t0 S else mb2 (s_St_scars c S ) (fun r19 S19 => if w32 r19 < 64 then q_WT_delete_98 c v6 v7 v8 t0 S19 else if 1 ≤ c.bc ∧ 6 ≤ c.bs then some ((1, 0), (CW.w_bs (CW.w_bc c (c.bc - 1)) (c.bs - 6)), S19) else none)

def s_WT_delete (C0 : CW) (S : WS) (v1 : Int) (v2 : Int64) (v4 : Int64) : Option ((Int × Int) × CW × WS) := mb3 (s_WT_existing C0 S v1) (fun q25 e25 S25 => if q25.1 = 0 then (fun r25 => if r25 < e25.N then mb2 (s_Se_points e25 S25 r25) (fun r27 S27 => if r27 < e25.N then if v2.toInt ≤ v4.toInt then mb2 (s_Pt_firstFrom e25 S27 r27 v2) (fun r30 S30 => mb2 (s_Pt_firstFrom e25 S30 r27 ((ll (min v4.toInt 1099511627775)) + (ll 1))) (fun r31 S31 => mb2 (s_Pt_packedAmong e25 S31 r27 r30 r31) (fun r32 S32 => if w32 r32 ≤ 0 then q_WT_delete_69 e25 r27 r30 r31 0 S32 else q_WT_delete_69 e25 r27 r30 r31 1 S32))) else if 1 ≤ e25.bc ∧ 6 ≤ e25.bs then some ((2, 0), (CW.w_bs (CW.w_bc e25 (e25.bc - 1)) (e25.bs - 6)), S27) else none else none) else none) q25.2 else some ((q25.1, 0), e25, S25))
set_option maxHeartbeats 4000000 in
set_option maxRecDepth 100000 in
theorem r_WT_delete (l : Launch) (hnt : jl_nt l) (D : jd_T) (g : Nat → Nat) (A0 : AW) (C0 : CW) (S : WS) (v1 : Int) (v2 : Int64) (v4 : Int64) (t : Int) (r : Int) (c9 : CW) (S9 : WS)  (hs : s_WT_delete C0 S v1 v2 v4 = some ((t, r), c9, S9)) : jgT_C l D y_WT_delete b_WT_delete 10 (some .int) { frames := 7, cells := C0.bc, slots := C0.bs, locals := 112 } [.ref (g 0), .int (ii v1), .long v2, .long v4] (wtL D g A0 C0 S) (fun q : AW × Nat => (oT t (some (.int (ii r))) q.2, (c9.bc ≤ C0.bc ∧ c9.bs ≤ C0.bs) ∧ aS A0 q.1, wtL D g q.1 c9 S9 ++ xT D t q.2, C0.bc - c9.bc, C0.bs - c9.bs)) := by
  refine jgT_of rfl (Nat.le_of_ble_eq_true rfl) ?_
  intro X hl hR hN ok hI hTT hnh fin
  subst hl
  have hcc : (C0.bc ≤ C0.bc ∧ C0.bs ≤ C0.bs) ∧ aS A0 A0 := ⟨⟨Nat.le_refl _, Nat.le_refl _⟩, fun _ _ _ => rfl⟩
  have B_110 : ∀ (A : AW) (c : CW) (v6 : Nat) (v7 : Int) (v8 : Int) (S : WS), (c.bc ≤ C0.bc ∧ c.bs ≤ C0.bs) ∧ aS A0 A → v6 < c.N → q_WT_delete_110 c v6 v7 v8 S = some ((t, r), c9, S9) → jw X (C0.bc - c.bc) (C0.bs - c.bs) (wtL D g A c S) [(0, .ref (g 0)), (6, .ref (A.us v6 5)), (7, .int (ii v7)), (8, .int (ii v8))] 110 [] := by
    intro A c v6 v7 v8 S hcc hv6 hs
    rw [q_WT_delete_110] at hs
    refine jr_aload_n ok 0 d_WT_delete_110 rfl rfl ?_
    refine jr_get (v := .ref (g 2)) ok 0 f_WT_19 rfl rfl d_WT_delete_111 ?_
    refine jr_aload ok 1 d_WT_delete_114 rfl ?_
    refine jr_iload ok 2 d_WT_delete_116 rfl ?_
    refine jr_iload ok 3 d_WT_delete_118 rfl ?_
    obtain ⟨r24, S24, hc24, hs⟩ := mb2_some hs
    refine jq_cV1 ok hR m_WT_190 (r_St_letGo (jx_l X) D g A c S v6 v7 v8 r24 S24 hv6 hc24) (sg_atk 3 rfl) rfl rfl rfl (Nat.le_of_ble_eq_true rfl) ⟨Nat.le_of_ble_eq_true rfl, Nat.le_of_ble_eq_true rfl⟩ ⟨Nat.sub_le _ _, Nat.sub_le _ _⟩ d_WT_delete_120 ?_
    show jw X (C0.bc - c.bc) (C0.bs - c.bs) (wtL D g A c S24) [(0, .ref (g 0)), (6, .ref (A.us v6 5)), (7, .int (ii v7)), (8, .int (ii v8))] 123 [.int (ii r24)]
    exact jt_iret (ψ := aS A0) (Lf := wtL D g) (bc := CW.bc) (bs := CW.bs) A ok fin hcc hs d_WT_delete_123
  have B_98 : ∀ (A : AW) (c : CW) (v6 : Nat) (v7 : Int) (v8 : Int) (v9 : Int) (S : WS), (c.bc ≤ C0.bc ∧ c.bs ≤ C0.bs) ∧ aS A0 A → v6 < c.N → q_WT_delete_98 c v6 v7 v8 v9 S = some ((t, r), c9, S9) → jw X (C0.bc - c.bc) (C0.bs - c.bs) (wtL D g A c S) [(0, .ref (g 0)), (6, .ref (A.us v6 5)), (7, .int (ii v7)), (8, .int (ii v8)), (9, .int (ii v9))] 98 [] := by
    intro A c v6 v7 v8 v9 S hcc hv6 hs
    rw [q_WT_delete_98] at hs
    refine jr_iload ok 4 d_WT_delete_98 rfl ?_
    refine jr_wif_eq 110 ok rfl d_WT_delete_100 (by decide) (fun c22 => ?_) (fun c22 => ?_)
    · replace hs := oq_pos c22 hs
      exact jr_lv [0, 1, 2, 3] rfl (B_110 A c v6 v7 v8 S hcc hv6 hs)
    · replace hs := oq_neg c22 hs
      refine jr_aload_n ok 0 d_WT_delete_103 rfl rfl ?_
      refine jr_get (v := .ref (g 2)) ok 0 f_WT_19 rfl rfl d_WT_delete_104 ?_
      obtain ⟨r23, S23, hc23, hs⟩ := mb2_some hs
      refine jq_cV0 ok hR m_WT_187 (r_St_addScar (jx_l X) D g A c S  r23 S23  hc23) (sg_atk 3 rfl) rfl rfl rfl (Nat.le_of_ble_eq_true rfl) ⟨Nat.le_of_ble_eq_true rfl, Nat.le_of_ble_eq_true rfl⟩ ⟨Nat.sub_le _ _, Nat.sub_le _ _⟩ d_WT_delete_107 ?_
      show jw X (C0.bc - c.bc) (C0.bs - c.bs) (wtL D g A c S23) [(0, .ref (g 0)), (6, .ref (A.us v6 5)), (7, .int (ii v7)), (8, .int (ii v8)), (9, .int (ii v9))] 110 []
      exact jr_lv [0, 1, 2, 3] rfl (B_110 A c v6 v7 v8 S23 hcc hv6 hs)
  have B_69 : ∀ (A : AW) (c : CW) (v6 : Nat) (v7 : Int) (v8 : Int) (t0 : Int) (S : WS), (c.bc ≤ C0.bc ∧ c.bs ≤ C0.bs) ∧ aS A0 A → v6 < c.N → q_WT_delete_69 c v6 v7 v8 t0 S = some ((t, r), c9, S9) → jw X (C0.bc - c.bc) (C0.bs - c.bs) (wtL D g A c S) [(0, .ref (g 0)), (6, .ref (A.us v6 5)), (7, .int (ii v7)), (8, .int (ii v8))] 69 [.int (ii t0)] := by
    intro A c v6 v7 v8 t0 S hcc hv6 hs
    rw [q_WT_delete_69] at hs
    refine jr_istore [(9, .int (ii t0)), (0, .ref (g 0)), (6, .ref (A.us v6 5)), (7, .int (ii v7)), (8, .int (ii v8))] ok d_WT_delete_69 (by rw [hN]; decide) rfl ?_
    refine jr_iload ok 0 d_WT_delete_71 rfl ?_
    refine jr_wif_eq 98 ok rfl d_WT_delete_73 (by decide) (fun c18 => ?_) (fun c18 => ?_)
    · replace hs := oq_pos c18 hs
      exact jr_lv [1, 2, 3, 4, 0] rfl (B_98 A c v6 v7 v8 t0 S hcc hv6 hs)
    · replace hs := oq_neg c18 hs
      refine jr_aload_n ok 1 d_WT_delete_76 rfl rfl ?_
      refine jr_get (v := .ref (g 2)) ok 0 f_WT_19 rfl rfl d_WT_delete_77 ?_
      obtain ⟨r19, S19, hc19, hs⟩ := mb2_some hs
      refine jq_cV1 ok hR m_WT_182 (r_St_scars (jx_l X) D g A c S  r19 S19  hc19) (sg_atk 3 rfl) rfl rfl rfl (Nat.le_of_ble_eq_true rfl) ⟨Nat.le_of_ble_eq_true rfl, Nat.le_of_ble_eq_true rfl⟩ ⟨Nat.sub_le _ _, Nat.sub_le _ _⟩ d_WT_delete_80 ?_
      show jw X (C0.bc - c.bc) (C0.bs - c.bs) (wtL D g A c S19) [(9, .int (ii t0)), (0, .ref (g 0)), (6, .ref (A.us v6 5)), (7, .int (ii v7)), (8, .int (ii v8))] 83 [.int (ii r19)]
      refine jr_bipush ok d_WT_delete_83 (by decide +kernel) ?_
      refine jr_wicmp_lt 98 ok rfl (show w32 64 = 64 by decide) d_WT_delete_85 (by decide) (fun c20 => ?_) (fun c20 => ?_)
      · replace hs := oq_pos c20 hs
        exact jr_lv [1, 2, 3, 4, 0] rfl (B_98 A c v6 v7 v8 t0 S19 hcc hv6 hs)
      · replace hs := oq_neg c20 hs
        obtain ⟨hb21, hs⟩ := oq_if hs
        exact jt_throw (vf := fun _ r => some (.int (ii r))) (ψ := aS A0) (Lf := wtL D g) (bc := CW.bc) (bs := CW.bs) (e := (CW.w_bs (CW.w_bc c (c.bc - 1)) (c.bs - 6))) (z := 0) (tx := "there are 64 scars") 1 A rfl (by decide) rfl hnt ok hTT hnh w_320 w_321 w_15 (by decide +kernel) (by decide +kernel) jTa_73 d_WT_delete_88 d_WT_delete_91 d_WT_delete_92 d_WT_delete_94 d_WT_delete_97 hR ⟨Nat.le_of_ble_eq_true rfl, Nat.le_of_ble_eq_true rfl⟩ hb21 rfl rfl fin hcc hs rfl
  refine jr_widen (cs' := C0.bc - C0.bc) (sl' := C0.bs - C0.bs) (Nat.zero_le _) (Nat.zero_le _) ?_
  show jw X (C0.bc - C0.bc) (C0.bs - C0.bs) (wtL D g A0 C0 S) [(0, .ref (g 0)), (1, .int (ii v1)), (2, .long v2), (4, .long v4)] 0 []
  rw [s_WT_delete] at hs
  refine jr_aload_n ok 0 d_WT_delete_0 rfl rfl ?_
  refine jr_iload_n ok 1 d_WT_delete_1 rfl rfl ?_
  obtain ⟨⟨t25, r25⟩, e25, S25, hc25, hs⟩ := mb3_some hs
  refine jt_callV (vf := fun A => some (.ref (A.us r25 0))) (Lo := fun A => wtL D g A e25 S25) ok hI hTT hR hcc.1 m_WT_126 (r_WT_existing (jx_l X) hnt D g A0 C0 S v1 t25 r25 e25 S25  hc25) (sg_atk 0 rfl) rfl rfl rfl (Nat.le_of_ble_eq_true rfl) ⟨Nat.le_of_ble_eq_true rfl, Nat.le_of_ble_eq_true rfl⟩ d_WT_delete_2 (fun z25 A25 hcb25 hst25 => ?_) (fun z25 A25 x25 hcb25 hst25 => jt_prop (vf := fun _ r => some (.int (ii r))) (ψ := aS A0) (Lf := wtL D g) (bc := CW.bc) (bs := CW.bs) z25 A25 ok hnh fin ⟨hcb25, aS_tr hcc.2 hst25⟩ (oq_neg z25 hs))
  replace hs := oq_pos z25 hs
  have hcc25 : (e25.bc ≤ C0.bc ∧ e25.bs ≤ C0.bs) ∧ aS A0 A25 := ⟨hcb25, aS_tr hcc.2 hst25⟩
  obtain ⟨hb26, hs⟩ := oq_if hs
  show jw X (C0.bc - e25.bc) (C0.bs - e25.bs) (wtL D g A25 e25 S25) [(0, .ref (g 0)), (1, .int (ii v1)), (2, .long v2), (4, .long v4)] 5 [.ref (A25.us r25 0)]
  obtain ⟨r27, S27, hc27, hs⟩ := mb2_some hs
  refine jq_cV1 ok hR m_WT_136 (r_Se_points (jx_l X) D g A25 e25 S25 r25 r27 S27 hb26 hc27) (sg_atp (F := serW D A25 e25 S25) 5 rfl hb26 0 rfl) rfl rfl rfl (Nat.le_of_ble_eq_true rfl) ⟨Nat.le_of_ble_eq_true rfl, Nat.le_of_ble_eq_true rfl⟩ ⟨Nat.sub_le _ _, Nat.sub_le _ _⟩ d_WT_delete_5 ?_
  obtain ⟨hb28, hs⟩ := oq_if hs
  show jw X (C0.bc - e25.bc) (C0.bs - e25.bs) (wtL D g A25 e25 S27) [(0, .ref (g 0)), (1, .int (ii v1)), (2, .long v2), (4, .long v4)] 8 [.ref (A25.us r27 5)]
  refine jr_astore [(6, .ref (A25.us r27 5)), (0, .ref (g 0)), (1, .int (ii v1)), (2, .long v2), (4, .long v4)] ok d_WT_delete_8 (by rw [hN]; decide) rfl ?_
  refine jr_lload_n ok 3 d_WT_delete_10 rfl rfl ?_
  refine jr_lload ok 4 d_WT_delete_11 rfl ?_
  refine jr_lif_le 27 ok rfl rfl d_WT_delete_13 d_WT_delete_14 (by decide) (fun c29 => ?_) (fun c29 => ?_)
  · replace hs := oq_pos c29 hs
    refine jr_aload ok 0 d_WT_delete_27 rfl ?_
    refine jr_lload_n ok 3 d_WT_delete_29 rfl rfl ?_
    obtain ⟨r30, S30, hc30, hs⟩ := mb2_some hs
    refine jq_cV1 ok hR m_WT_164 (r_Pt_firstFrom (jx_l X) D g A25 e25 S27 r27 v2 r30 S30 hb28 hc30) (sg_atp (F := serW D A25 e25 S27) 5 rfl hb28 5 rfl) rfl rfl rfl (Nat.le_of_ble_eq_true rfl) ⟨Nat.le_of_ble_eq_true rfl, Nat.le_of_ble_eq_true rfl⟩ ⟨Nat.sub_le _ _, Nat.sub_le _ _⟩ d_WT_delete_30 ?_
    show jw X (C0.bc - e25.bc) (C0.bs - e25.bs) (wtL D g A25 e25 S30) [(6, .ref (A25.us r27 5)), (0, .ref (g 0)), (1, .int (ii v1)), (2, .long v2), (4, .long v4)] 33 [.int (ii r30)]
    refine jr_istore [(7, .int (ii r30)), (6, .ref (A25.us r27 5)), (0, .ref (g 0)), (1, .int (ii v1)), (2, .long v2), (4, .long v4)] ok d_WT_delete_33 (by rw [hN]; decide) rfl ?_
    refine jr_aload ok 1 d_WT_delete_35 rfl ?_
    refine jr_lload ok 5 d_WT_delete_37 rfl ?_
    refine jr_ldc2 (z := 1099511627775) ok w_698 (by decide +kernel) d_WT_delete_39 ?_
    refine jr_xlmin ok w_699 w_700 w_17 w_701 rfl (ll_toInt ⟨by decide, by decide⟩) hR ⟨Nat.le_of_ble_eq_true rfl, Nat.le_of_ble_eq_true rfl⟩ ⟨Nat.sub_le _ _, Nat.sub_le _ _⟩ (Nat.le_of_ble_eq_true rfl) d_WT_delete_42 ?_
    refine jr_lconst (z := 1) ok d_WT_delete_45 (by decide +kernel) ?_
    refine jr_laddx ok d_WT_delete_46 ?_
    obtain ⟨r31, S31, hc31, hs⟩ := mb2_some hs
    refine jq_cV1 ok hR m_WT_164 (r_Pt_firstFrom (jx_l X) D g A25 e25 S30 r27 ((ll (min v4.toInt 1099511627775)) + (ll 1)) r31 S31 hb28 hc31) (sg_atp (F := serW D A25 e25 S30) 5 rfl hb28 5 rfl) rfl rfl rfl (Nat.le_of_ble_eq_true rfl) ⟨Nat.le_of_ble_eq_true rfl, Nat.le_of_ble_eq_true rfl⟩ ⟨Nat.sub_le _ _, Nat.sub_le _ _⟩ d_WT_delete_47 ?_
    show jw X (C0.bc - e25.bc) (C0.bs - e25.bs) (wtL D g A25 e25 S31) [(7, .int (ii r30)), (6, .ref (A25.us r27 5)), (0, .ref (g 0)), (1, .int (ii v1)), (2, .long v2), (4, .long v4)] 50 [.int (ii r31)]
    refine jr_istore [(8, .int (ii r31)), (7, .int (ii r30)), (6, .ref (A25.us r27 5)), (0, .ref (g 0)), (1, .int (ii v1)), (2, .long v2), (4, .long v4)] ok d_WT_delete_50 (by rw [hN]; decide) rfl ?_
    refine jr_aload ok 2 d_WT_delete_52 rfl ?_
    refine jr_iload ok 1 d_WT_delete_54 rfl ?_
    refine jr_iload ok 0 d_WT_delete_56 rfl ?_
    obtain ⟨r32, S32, hc32, hs⟩ := mb2_some hs
    refine jq_cV1 ok hR m_WT_178 (r_Pt_packedAmong (jx_l X) D g A25 e25 S31 r27 r30 r31 r32 S32 hb28 hc32) (sg_atp (F := serW D A25 e25 S31) 5 rfl hb28 5 rfl) rfl rfl rfl (Nat.le_of_ble_eq_true rfl) ⟨Nat.le_of_ble_eq_true rfl, Nat.le_of_ble_eq_true rfl⟩ ⟨Nat.sub_le _ _, Nat.sub_le _ _⟩ d_WT_delete_58 ?_
    show jw X (C0.bc - e25.bc) (C0.bs - e25.bs) (wtL D g A25 e25 S32) [(8, .int (ii r31)), (7, .int (ii r30)), (6, .ref (A25.us r27 5)), (0, .ref (g 0)), (1, .int (ii v1)), (2, .long v2), (4, .long v4)] 61 [.int (ii r32)]
    refine jr_wif_le 68 ok rfl d_WT_delete_61 (by decide) (fun c33 => ?_) (fun c33 => ?_)
    · replace hs := oq_pos c33 hs
      refine jr_iconst ok d_WT_delete_68 ?_
      exact jr_lv [3, 2, 1, 0] rfl (B_69 A25 e25 r27 r30 r31 0 S32 hcc25 hb28 hs)
    · replace hs := oq_neg c33 hs
      refine jr_iconst ok d_WT_delete_64 ?_
      refine jr_goto 69 ok d_WT_delete_65 (by decide) ?_
      exact jr_lv [3, 2, 1, 0] rfl (B_69 A25 e25 r27 r30 r31 1 S32 hcc25 hb28 hs)
  · replace hs := oq_neg c29 hs
    obtain ⟨hb34, hs⟩ := oq_if hs
    exact jt_throw (vf := fun _ r => some (.int (ii r))) (ψ := aS A0) (Lf := wtL D g) (bc := CW.bc) (bs := CW.bs) (e := (CW.w_bs (CW.w_bc e25 (e25.bc - 1)) (e25.bs - 6))) (z := 0) (tx := "from is above to") 2 A25 rfl (by decide) rfl hnt ok hTT hnh w_415 w_416 w_19 (by decide +kernel) (by decide +kernel) jTa_84 d_WT_delete_17 d_WT_delete_20 d_WT_delete_21 d_WT_delete_23 d_WT_delete_26 hR ⟨Nat.le_of_ble_eq_true rfl, Nat.le_of_ble_eq_true rfl⟩ hb34 rfl rfl fin hcc25 hs rfl

def q_WT_retain_23 (c : CW)  (S : WS) : Option ((Int × Int) × CW × WS) := if 1 ≤ c.bc ∧ 6 ≤ c.bs then some ((2, 0), (CW.w_bs (CW.w_bc c (c.bc - 1)) (c.bs - 6)), S) else none

def s_WT_retain (C0 : CW) (S : WS) (v1 : Int64) : Option ((Int × Int) × CW × WS) := mb2 (s_St_isTime C0 S v1) (fun r8 S8 => if w32 r8 = 0 then q_WT_retain_23 C0 S8 else mb2 (s_St_horizon C0 S8 ) (fun r10 S10 => if r10.toInt ≤ v1.toInt then mb2 (s_St_moveHorizon C0 S10 v1) (fun r12 S12 => some ((0, r12), C0, S12)) else q_WT_retain_23 C0 S10))
set_option maxHeartbeats 4000000 in
set_option maxRecDepth 100000 in
theorem r_WT_retain (l : Launch) (hnt : jl_nt l) (D : jd_T) (g : Nat → Nat) (A0 : AW) (C0 : CW) (S : WS) (v1 : Int64) (t : Int) (r : Int) (c9 : CW) (S9 : WS)  (hs : s_WT_retain C0 S v1 = some ((t, r), c9, S9)) : jgT_C l D y_WT_retain b_WT_retain 3 (some .int) { frames := 6, cells := C0.bc, slots := C0.bs, locals := 122 } [.ref (g 0), .long v1] (wtL D g A0 C0 S) (fun q : AW × Nat => (oT t (some (.int (ii r))) q.2, (c9.bc ≤ C0.bc ∧ c9.bs ≤ C0.bs) ∧ aS A0 q.1, wtL D g q.1 c9 S9 ++ xT D t q.2, C0.bc - c9.bc, C0.bs - c9.bs)) := by
  refine jgT_of rfl (Nat.le_of_ble_eq_true rfl) ?_
  intro X hl hR hN ok hI hTT hnh fin
  subst hl
  have hcc : (C0.bc ≤ C0.bc ∧ C0.bs ≤ C0.bs) ∧ aS A0 A0 := ⟨⟨Nat.le_refl _, Nat.le_refl _⟩, fun _ _ _ => rfl⟩
  have B_23 : ∀ (A : AW) (c : CW) (S : WS), (c.bc ≤ C0.bc ∧ c.bs ≤ C0.bs) ∧ aS A0 A → q_WT_retain_23 c S = some ((t, r), c9, S9) → jw X (C0.bc - c.bc) (C0.bs - c.bs) (wtL D g A c S) [] 23 [] := by
    intro A c S hcc hs
    rw [q_WT_retain_23] at hs
    obtain ⟨hb7, hs⟩ := oq_if hs
    exact jt_throw (vf := fun _ r => some (.int (ii r))) (ψ := aS A0) (Lf := wtL D g) (bc := CW.bc) (bs := CW.bs) (e := (CW.w_bs (CW.w_bc c (c.bc - 1)) (c.bs - 6))) (z := 0) (tx := "no time, or below the horizon") 2 A rfl (by decide) rfl hnt ok hTT hnh w_415 w_416 w_19 (by decide +kernel) (by decide +kernel) jTa_84 d_WT_retain_23 d_WT_retain_26 d_WT_retain_27 d_WT_retain_29 d_WT_retain_32 hR ⟨Nat.le_of_ble_eq_true rfl, Nat.le_of_ble_eq_true rfl⟩ hb7 rfl rfl fin hcc hs rfl
  refine jr_widen (cs' := C0.bc - C0.bc) (sl' := C0.bs - C0.bs) (Nat.zero_le _) (Nat.zero_le _) ?_
  show jw X (C0.bc - C0.bc) (C0.bs - C0.bs) (wtL D g A0 C0 S) [(0, .ref (g 0)), (1, .long v1)] 0 []
  rw [s_WT_retain] at hs
  refine jr_aload_n ok 0 d_WT_retain_0 rfl rfl ?_
  refine jr_get (v := .ref (g 2)) ok 0 f_WT_19 rfl rfl d_WT_retain_1 ?_
  refine jr_lload_n ok 1 d_WT_retain_4 rfl rfl ?_
  obtain ⟨r8, S8, hc8, hs⟩ := mb2_some hs
  refine jq_cV1 ok hR m_WT_194 (r_St_isTime (jx_l X) D g A0 C0 S v1 r8 S8  hc8) (sg_atk 3 rfl) rfl rfl rfl (Nat.le_of_ble_eq_true rfl) ⟨Nat.le_of_ble_eq_true rfl, Nat.le_of_ble_eq_true rfl⟩ ⟨Nat.sub_le _ _, Nat.sub_le _ _⟩ d_WT_retain_5 ?_
  show jw X (C0.bc - C0.bc) (C0.bs - C0.bs) (wtL D g A0 C0 S8) [(0, .ref (g 0)), (1, .long v1)] 8 [.int (ii r8)]
  refine jr_wif_eq 23 ok rfl d_WT_retain_8 (by decide) (fun c9 => ?_) (fun c9 => ?_)
  · replace hs := oq_pos c9 hs
    exact jr_lv [] rfl (B_23 A0 C0 S8 hcc hs)
  · replace hs := oq_neg c9 hs
    refine jr_lload_n ok 1 d_WT_retain_11 rfl rfl ?_
    refine jr_aload_n ok 0 d_WT_retain_12 rfl rfl ?_
    refine jr_get (v := .ref (g 2)) ok 0 f_WT_19 rfl rfl d_WT_retain_13 ?_
    obtain ⟨r10, S10, hc10, hs⟩ := mb2_some hs
    refine jq_cV1 ok hR m_WT_198 (r_St_horizon (jx_l X) D g A0 C0 S8  r10 S10  hc10) (sg_atk 3 rfl) rfl rfl rfl (Nat.le_of_ble_eq_true rfl) ⟨Nat.le_of_ble_eq_true rfl, Nat.le_of_ble_eq_true rfl⟩ ⟨Nat.sub_le _ _, Nat.sub_le _ _⟩ d_WT_retain_16 ?_
    show jw X (C0.bc - C0.bc) (C0.bs - C0.bs) (wtL D g A0 C0 S10) [(0, .ref (g 0)), (1, .long v1)] 19 [.long r10, .long v1]
    refine jr_lif_ge 33 ok rfl rfl d_WT_retain_19 d_WT_retain_20 (by decide) (fun c11 => ?_) (fun c11 => ?_)
    · replace hs := oq_pos c11 hs
      refine jr_aload_n ok 0 d_WT_retain_33 rfl rfl ?_
      refine jr_get (v := .ref (g 2)) ok 0 f_WT_19 rfl rfl d_WT_retain_34 ?_
      refine jr_lload_n ok 1 d_WT_retain_37 rfl rfl ?_
      obtain ⟨r12, S12, hc12, hs⟩ := mb2_some hs
      refine jq_cV1 ok hR m_WT_204 (r_St_moveHorizon (jx_l X) D g A0 C0 S10 v1 r12 S12  hc12) (sg_atk 3 rfl) rfl rfl rfl (Nat.le_of_ble_eq_true rfl) ⟨Nat.le_of_ble_eq_true rfl, Nat.le_of_ble_eq_true rfl⟩ ⟨Nat.sub_le _ _, Nat.sub_le _ _⟩ d_WT_retain_38 ?_
      show jw X (C0.bc - C0.bc) (C0.bs - C0.bs) (wtL D g A0 C0 S12) [(0, .ref (g 0)), (1, .long v1)] 41 [.int (ii r12)]
      exact jt_iret (ψ := aS A0) (Lf := wtL D g) (bc := CW.bc) (bs := CW.bs) A0 ok fin hcc hs d_WT_retain_41
    · replace hs := oq_neg c11 hs
      exact jr_lv [] rfl (B_23 A0 C0 S10 hcc hs)

def q_WT_ask_118 (c : CW) (v6 : Int) (S : WS) : Option ((Int × Int) × CW × WS) := mb2 (s_Tp_keep c S 0) (fun r18 S18 => some ((0, v6), c, S18))

def q_WT_ask_38 (c : CW)  (S : WS) : Option ((Int × Int) × CW × WS) := if 1 ≤ c.bc ∧ 6 ≤ c.bs then some ((2, 0), (CW.w_bs (CW.w_bc c (c.bc - 1)) (c.bs - 6)), S) else none

def s_WT_ask (C0 : CW) (S : WS) (v1 : Int64) (v3 : Int64) (v5 : Int) : Option ((Int × Int) × CW × WS) := mb2 (s_St_isTime C0 S v1) (fun r19 S19 => if w32 r19 = 0 then q_WT_ask_38 C0 S19 else if v3.toInt < 1 then q_WT_ask_38 C0 S19 else if 1099511627775 < v3.toInt then q_WT_ask_38 C0 S19 else if w32 v5 < 1 then q_WT_ask_38 C0 S19 else if w32 v5 ≤ 64 then mb3 (s_QR_read C0 S19 ) (fun r25 e25 S25 => if r25 = 0 ∨ r25 = 1 then mb2 (s_QR_faultCode e25 (WS.w_wt_hasTable S25 r25) ) (fun r27 S27 => mb2 (s_QR_faultPlace e25 (WS.w_wt_faultCode S27 r27) ) (fun r28 S28 => if w32 S28.wt_hasTable = 0 then q_WT_ask_118 e25 (-1) (WS.w_wt_faultPlace S28 r28) else mb2 (s_QR_naming e25 (WS.w_wt_faultPlace S28 r28) ) (fun r30 S30 => mb2 (s_Gr_form e25 S30 r30) (fun r31 S31 => mb3 (s_Ev_run e25 S31 v1 v3 v5) (fun r32 e32 S32 => q_WT_ask_118 e32 r32 S32))))) else none) else q_WT_ask_38 C0 S19)
set_option maxHeartbeats 4000000 in
set_option maxRecDepth 100000 in
theorem r_WT_ask (l : Launch) (hnt : jl_nt l) (D : jd_T) (g : Nat → Nat) (A0 : AW) (C0 : CW) (S : WS) (v1 : Int64) (v3 : Int64) (v5 : Int) (t : Int) (r : Int) (c9 : CW) (S9 : WS)  (hs : s_WT_ask C0 S v1 v3 v5 = some ((t, r), c9, S9)) : jgT_C l D y_WT_ask b_WT_ask 7 (some .int) { frames := 82, cells := C0.bc, slots := C0.bs, locals := 2045 } [.ref (g 0), .long v1, .long v3, .int (ii v5)] (wtL D g A0 C0 S) (fun q : AW × Nat => (oT t (some (.int (ii r))) q.2, (c9.bc ≤ C0.bc ∧ c9.bs ≤ C0.bs) ∧ aS A0 q.1, wtL D g q.1 c9 S9 ++ xT D t q.2, C0.bc - c9.bc, C0.bs - c9.bs)) := by
  refine jgT_of rfl (Nat.le_of_ble_eq_true rfl) ?_
  intro X hl hR hN ok hI hTT hnh fin
  subst hl
  have hcc : (C0.bc ≤ C0.bc ∧ C0.bs ≤ C0.bs) ∧ aS A0 A0 := ⟨⟨Nat.le_refl _, Nat.le_refl _⟩, fun _ _ _ => rfl⟩
  have B_118 : ∀ (A : AW) (c : CW) (v6 : Int) (S : WS), (c.bc ≤ C0.bc ∧ c.bs ≤ C0.bs) ∧ aS A0 A → q_WT_ask_118 c v6 S = some ((t, r), c9, S9) → jw X (C0.bc - c.bc) (C0.bs - c.bs) (wtL D g A c S) [(0, .ref (g 0)), (6, .int (ii v6))] 118 [] := by
    intro A c v6 S hcc hs
    rw [q_WT_ask_118] at hs
    refine jr_aload_n ok 0 d_WT_ask_118 rfl rfl ?_
    refine jr_get (v := .ref (g 1)) ok 0 f_WT_12 rfl rfl d_WT_ask_119 ?_
    refine jr_iconst ok d_WT_ask_122 ?_
    obtain ⟨r18, S18, hc18, hs⟩ := mb2_some hs
    refine jq_cV0 ok hR m_WT_85 (r_Tp_keep (jx_l X) D g A c S 0 r18 S18  hc18) (sg_atk 1 rfl) rfl rfl rfl (Nat.le_of_ble_eq_true rfl) ⟨Nat.le_of_ble_eq_true rfl, Nat.le_of_ble_eq_true rfl⟩ ⟨Nat.sub_le _ _, Nat.sub_le _ _⟩ d_WT_ask_123 ?_
    show jw X (C0.bc - c.bc) (C0.bs - c.bs) (wtL D g A c S18) [(0, .ref (g 0)), (6, .int (ii v6))] 126 []
    refine jr_iload ok 1 d_WT_ask_126 rfl ?_
    exact jt_iret (ψ := aS A0) (Lf := wtL D g) (bc := CW.bc) (bs := CW.bs) A ok fin hcc hs d_WT_ask_128
  have B_38 : ∀ (A : AW) (c : CW) (S : WS), (c.bc ≤ C0.bc ∧ c.bs ≤ C0.bs) ∧ aS A0 A → q_WT_ask_38 c S = some ((t, r), c9, S9) → jw X (C0.bc - c.bc) (C0.bs - c.bs) (wtL D g A c S) [] 38 [] := by
    intro A c S hcc hs
    rw [q_WT_ask_38] at hs
    obtain ⟨hb17, hs⟩ := oq_if hs
    exact jt_throw (vf := fun _ r => some (.int (ii r))) (ψ := aS A0) (Lf := wtL D g) (bc := CW.bc) (bs := CW.bs) (e := (CW.w_bs (CW.w_bc c (c.bc - 1)) (c.bs - 6))) (z := 0) (tx := "no time, no width, or no number of windows") 2 A rfl (by decide) rfl hnt ok hTT hnh w_415 w_416 w_19 (by decide +kernel) (by decide +kernel) jTa_84 d_WT_ask_38 d_WT_ask_41 d_WT_ask_42 d_WT_ask_44 d_WT_ask_47 hR ⟨Nat.le_of_ble_eq_true rfl, Nat.le_of_ble_eq_true rfl⟩ hb17 rfl rfl fin hcc hs rfl
  refine jr_widen (cs' := C0.bc - C0.bc) (sl' := C0.bs - C0.bs) (Nat.zero_le _) (Nat.zero_le _) ?_
  show jw X (C0.bc - C0.bc) (C0.bs - C0.bs) (wtL D g A0 C0 S) [(0, .ref (g 0)), (1, .long v1), (3, .long v3), (5, .int (ii v5))] 0 []
  rw [s_WT_ask] at hs
  refine jr_aload_n ok 0 d_WT_ask_0 rfl rfl ?_
  refine jr_get (v := .ref (g 2)) ok 0 f_WT_19 rfl rfl d_WT_ask_1 ?_
  refine jr_lload_n ok 1 d_WT_ask_4 rfl rfl ?_
  obtain ⟨r19, S19, hc19, hs⟩ := mb2_some hs
  refine jq_cV1 ok hR m_WT_194 (r_St_isTime (jx_l X) D g A0 C0 S v1 r19 S19  hc19) (sg_atk 3 rfl) rfl rfl rfl (Nat.le_of_ble_eq_true rfl) ⟨Nat.le_of_ble_eq_true rfl, Nat.le_of_ble_eq_true rfl⟩ ⟨Nat.sub_le _ _, Nat.sub_le _ _⟩ d_WT_ask_5 ?_
  show jw X (C0.bc - C0.bc) (C0.bs - C0.bs) (wtL D g A0 C0 S19) [(0, .ref (g 0)), (1, .long v1), (3, .long v3), (5, .int (ii v5))] 8 [.int (ii r19)]
  refine jr_wif_eq 38 ok rfl d_WT_ask_8 (by decide) (fun c20 => ?_) (fun c20 => ?_)
  · replace hs := oq_pos c20 hs
    exact jr_lv [] rfl (B_38 A0 C0 S19 hcc hs)
  · replace hs := oq_neg c20 hs
    refine jr_lload_n ok 2 d_WT_ask_11 rfl rfl ?_
    refine jr_lconst (z := 1) ok d_WT_ask_12 (by decide +kernel) ?_
    refine jr_lif_lt 38 ok rfl (ll_toInt ⟨by decide, by decide⟩) d_WT_ask_13 d_WT_ask_14 (by decide) (fun c21 => ?_) (fun c21 => ?_)
    · replace hs := oq_pos c21 hs
      exact jr_lv [] rfl (B_38 A0 C0 S19 hcc hs)
    · replace hs := oq_neg c21 hs
      refine jr_lload_n ok 2 d_WT_ask_17 rfl rfl ?_
      refine jr_ldc2 (z := 1099511627775) ok w_698 (by decide +kernel) d_WT_ask_18 ?_
      refine jr_lif_gt 38 ok rfl (ll_toInt ⟨by decide, by decide⟩) d_WT_ask_21 d_WT_ask_22 (by decide) (fun c22 => ?_) (fun c22 => ?_)
      · replace hs := oq_pos c22 hs
        exact jr_lv [] rfl (B_38 A0 C0 S19 hcc hs)
      · replace hs := oq_neg c22 hs
        refine jr_iload ok 3 d_WT_ask_25 rfl ?_
        refine jr_iconst ok d_WT_ask_27 ?_
        refine jr_wicmp_lt 38 ok rfl (show w32 1 = 1 by decide) d_WT_ask_28 (by decide) (fun c23 => ?_) (fun c23 => ?_)
        · replace hs := oq_pos c23 hs
          exact jr_lv [] rfl (B_38 A0 C0 S19 hcc hs)
        · replace hs := oq_neg c23 hs
          refine jr_iload ok 3 d_WT_ask_31 rfl ?_
          refine jr_bipush ok d_WT_ask_33 (by decide +kernel) ?_
          refine jr_wicmp_le 48 ok rfl (show w32 64 = 64 by decide) d_WT_ask_35 (by decide) (fun c24 => ?_) (fun c24 => ?_)
          · replace hs := oq_pos c24 hs
            refine jr_aload_n ok 0 d_WT_ask_48 rfl rfl ?_
            refine jr_aload_n ok 0 d_WT_ask_49 rfl rfl ?_
            refine jr_get (v := .ref (g 10)) ok 0 f_WT_42 rfl rfl d_WT_ask_50 ?_
            obtain ⟨r25, e25, S25, hc25, hs⟩ := mb3_some hs
            refine jh_gV1 (Lo := fun A => wtL D g A e25 S25) ok hI hR hcc.1 m_WT_209 (r_QR_read (jx_l X) D g A0 C0 S19  r25 e25 S25  hc25) (sg_atk 13 rfl) rfl rfl rfl (Nat.le_of_ble_eq_true rfl) ⟨Nat.le_of_ble_eq_true rfl, Nat.le_of_ble_eq_true rfl⟩ d_WT_ask_53 (fun A25 hcb25 hst25 => ?_)
            have hcc25 : (e25.bc ≤ C0.bc ∧ e25.bs ≤ C0.bs) ∧ aS A0 A25 := ⟨hcb25, aS_tr hcc.2 hst25⟩
            show jw X (C0.bc - e25.bc) (C0.bs - e25.bs) (wtL D g A25 e25 S25) [(0, .ref (g 0)), (1, .long v1), (3, .long v3), (5, .int (ii v5))] 56 [.int (ii r25), .ref (g 0)]
            obtain ⟨hb26, hs⟩ := oq_if hs
            refine jr_put (wtL D g A25 e25 (WS.w_wt_hasTable S25 r25)) ok 0 f_WT_211 rfl (nz_b hb26) (fit_z hb26) (Nat.le_of_ble_eq_true rfl) rfl d_WT_ask_56 ?_
            refine jr_aload_n ok 0 d_WT_ask_59 rfl rfl ?_
            refine jr_aload_n ok 0 d_WT_ask_60 rfl rfl ?_
            refine jr_get (v := .ref (g 10)) ok 0 f_WT_42 rfl rfl d_WT_ask_61 ?_
            obtain ⟨r27, S27, hc27, hs⟩ := mb2_some hs
            refine jq_cV1 ok hR m_WT_215 (r_QR_faultCode (jx_l X) D g A25 e25 (WS.w_wt_hasTable S25 r25)  r27 S27  hc27) (sg_atk 13 rfl) rfl rfl rfl (Nat.le_of_ble_eq_true rfl) ⟨Nat.le_of_ble_eq_true rfl, Nat.le_of_ble_eq_true rfl⟩ ⟨Nat.sub_le _ _, Nat.sub_le _ _⟩ d_WT_ask_64 ?_
            show jw X (C0.bc - e25.bc) (C0.bs - e25.bs) (wtL D g A25 e25 S27) [(0, .ref (g 0)), (1, .long v1), (3, .long v3), (5, .int (ii v5))] 67 [.int (ii r27), .ref (g 0)]
            refine jr_put (wtL D g A25 e25 (WS.w_wt_faultCode S27 r27)) ok 0 f_WT_113 rfl rfl rfl (Nat.le_of_ble_eq_true rfl) rfl d_WT_ask_67 ?_
            refine jr_aload_n ok 0 d_WT_ask_70 rfl rfl ?_
            refine jr_aload_n ok 0 d_WT_ask_71 rfl rfl ?_
            refine jr_get (v := .ref (g 10)) ok 0 f_WT_42 rfl rfl d_WT_ask_72 ?_
            obtain ⟨r28, S28, hc28, hs⟩ := mb2_some hs
            refine jq_cV1 ok hR m_WT_216 (r_QR_faultPlace (jx_l X) D g A25 e25 (WS.w_wt_faultCode S27 r27)  r28 S28  hc28) (sg_atk 13 rfl) rfl rfl rfl (Nat.le_of_ble_eq_true rfl) ⟨Nat.le_of_ble_eq_true rfl, Nat.le_of_ble_eq_true rfl⟩ ⟨Nat.sub_le _ _, Nat.sub_le _ _⟩ d_WT_ask_75 ?_
            show jw X (C0.bc - e25.bc) (C0.bs - e25.bs) (wtL D g A25 e25 S28) [(0, .ref (g 0)), (1, .long v1), (3, .long v3), (5, .int (ii v5))] 78 [.int (ii r28), .ref (g 0)]
            refine jr_put (wtL D g A25 e25 (WS.w_wt_faultPlace S28 r28)) ok 0 f_WT_119 rfl rfl rfl (Nat.le_of_ble_eq_true rfl) rfl d_WT_ask_78 ?_
            refine jr_iconst ok d_WT_ask_81 ?_
            refine jr_istore [(6, .int (ii (-1))), (0, .ref (g 0)), (1, .long v1), (3, .long v3), (5, .int (ii v5))] ok d_WT_ask_82 (by rw [hN]; decide) rfl ?_
            refine jr_aload_n ok 1 d_WT_ask_84 rfl rfl ?_
            refine jr_get (v := .int (ii S28.wt_hasTable)) ok 0 f_WT_211 rfl rfl d_WT_ask_85 ?_
            refine jr_wif_eq 118 ok rfl d_WT_ask_88 (by decide) (fun c29 => ?_) (fun c29 => ?_)
            · replace hs := oq_pos c29 hs
              exact jr_lv [1, 0] rfl (B_118 A25 e25 (-1) (WS.w_wt_faultPlace S28 r28) hcc25 hs)
            · replace hs := oq_neg c29 hs
              refine jr_aload_n ok 1 d_WT_ask_91 rfl rfl ?_
              refine jr_get (v := .ref (g 12)) ok 0 f_WT_51 rfl rfl d_WT_ask_92 ?_
              refine jr_aload_n ok 1 d_WT_ask_95 rfl rfl ?_
              refine jr_get (v := .ref (g 10)) ok 0 f_WT_42 rfl rfl d_WT_ask_96 ?_
              obtain ⟨r30, S30, hc30, hs⟩ := mb2_some hs
              refine jq_cV1 ok hR m_WT_217 (r_QR_naming (jx_l X) D g A25 e25 (WS.w_wt_faultPlace S28 r28)  r30 S30  hc30) (sg_atk 13 rfl) rfl rfl rfl (Nat.le_of_ble_eq_true rfl) ⟨Nat.le_of_ble_eq_true rfl, Nat.le_of_ble_eq_true rfl⟩ ⟨Nat.sub_le _ _, Nat.sub_le _ _⟩ d_WT_ask_99 ?_
              show jw X (C0.bc - e25.bc) (C0.bs - e25.bs) (wtL D g A25 e25 S30) [(6, .int (ii (-1))), (0, .ref (g 0)), (1, .long v1), (3, .long v3), (5, .int (ii v5))] 102 [.int (ii r30), .ref (g 12)]
              obtain ⟨r31, S31, hc31, hs⟩ := mb2_some hs
              refine jq_cV0 ok hR m_WT_220 (r_Gr_form (jx_l X) D g A25 e25 S30 r30 r31 S31  hc31) (sg_atk 15 rfl) rfl rfl rfl (Nat.le_of_ble_eq_true rfl) ⟨Nat.le_of_ble_eq_true rfl, Nat.le_of_ble_eq_true rfl⟩ ⟨Nat.sub_le _ _, Nat.sub_le _ _⟩ d_WT_ask_102 ?_
              show jw X (C0.bc - e25.bc) (C0.bs - e25.bs) (wtL D g A25 e25 S31) [(6, .int (ii (-1))), (0, .ref (g 0)), (1, .long v1), (3, .long v3), (5, .int (ii v5))] 105 []
              refine jr_aload_n ok 1 d_WT_ask_105 rfl rfl ?_
              refine jr_get (v := .ref (g 17)) ok 0 f_WT_60 rfl rfl d_WT_ask_106 ?_
              refine jr_lload_n ok 2 d_WT_ask_109 rfl rfl ?_
              refine jr_lload_n ok 3 d_WT_ask_110 rfl rfl ?_
              refine jr_iload ok 4 d_WT_ask_111 rfl ?_
              obtain ⟨r32, e32, S32, hc32, hs⟩ := mb3_some hs
              refine jh_gV1 (Lo := fun A => wtL D g A e32 S32) ok hI hR hcc25.1 m_WT_223 (r_Ev_run (jx_l X) D g A25 e25 S31 v1 v3 v5 r32 e32 S32  hc32) (sg_atk 20 rfl) rfl rfl rfl (Nat.le_of_ble_eq_true rfl) ⟨Nat.le_of_ble_eq_true rfl, Nat.le_of_ble_eq_true rfl⟩ d_WT_ask_113 (fun A32 hcb32 hst32 => ?_)
              have hcc32 : (e32.bc ≤ C0.bc ∧ e32.bs ≤ C0.bs) ∧ aS A0 A32 := ⟨hcb32, aS_tr hcc25.2 hst32⟩
              show jw X (C0.bc - e32.bc) (C0.bs - e32.bs) (wtL D g A32 e32 S32) [(6, .int (ii (-1))), (0, .ref (g 0)), (1, .long v1), (3, .long v3), (5, .int (ii v5))] 116 [.int (ii r32)]
              refine jr_istore [(6, .int (ii r32)), (0, .ref (g 0)), (1, .long v1), (3, .long v3), (5, .int (ii v5))] ok d_WT_ask_116 (by rw [hN]; decide) rfl ?_
              exact jr_lv [1, 0] rfl (B_118 A32 e32 r32 S32 hcc32 hs)
          · replace hs := oq_neg c24 hs
            exact jr_lv [] rfl (B_38 A0 C0 S19 hcc hs)

def s_WT_text (C0 : CW) (S : WS) (v1 : Int) (v2 : Int) (v3 : Int) : Option ((Int × Int) × CW × WS) := mb2 (s_WT_hasRow C0 S v1) (fun r5 S5 => if w32 r5 = 0 then if 1 ≤ C0.bc ∧ 6 ≤ C0.bs then some ((3, 0), (CW.w_bs (CW.w_bc C0 (C0.bc - 1)) (C0.bs - 6)), S5) else none else mb2 (s_Gr_letterAt C0 S5 v1 v2 v3) (fun r7 S7 => some ((0, r7), C0, S7)))
set_option maxHeartbeats 4000000 in
set_option maxRecDepth 100000 in
theorem r_WT_text (l : Launch) (hnt : jl_nt l) (D : jd_T) (g : Nat → Nat) (A0 : AW) (C0 : CW) (S : WS) (v1 : Int) (v2 : Int) (v3 : Int) (t : Int) (r : Int) (c9 : CW) (S9 : WS)  (hs : s_WT_text C0 S v1 v2 v3 = some ((t, r), c9, S9)) : jgT_C l D y_WT_text b_WT_text 4 (some .int) { frames := 6, cells := C0.bc, slots := C0.bs, locals := 90 } [.ref (g 0), .int (ii v1), .int (ii v2), .int (ii v3)] (wtL D g A0 C0 S) (fun q : AW × Nat => (oT t (some (.int (ii r))) q.2, (c9.bc ≤ C0.bc ∧ c9.bs ≤ C0.bs) ∧ aS A0 q.1, wtL D g q.1 c9 S9 ++ xT D t q.2, C0.bc - c9.bc, C0.bs - c9.bs)) := by
  refine jgT_of rfl (Nat.le_of_ble_eq_true rfl) ?_
  intro X hl hR hN ok hI hTT hnh fin
  subst hl
  have hcc : (C0.bc ≤ C0.bc ∧ C0.bs ≤ C0.bs) ∧ aS A0 A0 := ⟨⟨Nat.le_refl _, Nat.le_refl _⟩, fun _ _ _ => rfl⟩
  refine jr_widen (cs' := C0.bc - C0.bc) (sl' := C0.bs - C0.bs) (Nat.zero_le _) (Nat.zero_le _) ?_
  show jw X (C0.bc - C0.bc) (C0.bs - C0.bs) (wtL D g A0 C0 S) [(0, .ref (g 0)), (1, .int (ii v1)), (2, .int (ii v2)), (3, .int (ii v3))] 0 []
  rw [s_WT_text] at hs
  refine jr_aload_n ok 0 d_WT_text_0 rfl rfl ?_
  refine jr_iload_n ok 1 d_WT_text_1 rfl rfl ?_
  obtain ⟨r5, S5, hc5, hs⟩ := mb2_some hs
  refine jq_cV1 ok hR m_WT_230 (r_WT_hasRow (jx_l X) D g A0 C0 S v1 r5 S5  hc5) (sg_atk 0 rfl) rfl rfl rfl (Nat.le_of_ble_eq_true rfl) ⟨Nat.le_of_ble_eq_true rfl, Nat.le_of_ble_eq_true rfl⟩ ⟨Nat.sub_le _ _, Nat.sub_le _ _⟩ d_WT_text_2 ?_
  show jw X (C0.bc - C0.bc) (C0.bs - C0.bs) (wtL D g A0 C0 S5) [(0, .ref (g 0)), (1, .int (ii v1)), (2, .int (ii v2)), (3, .int (ii v3))] 5 [.int (ii r5)]
  refine jr_wif_ne 18 ok rfl d_WT_text_5 (by decide) (fun c6 => ?_) (fun c6 => ?_)
  · replace hs := oq_neg c6 hs
    refine jr_aload_n ok 0 d_WT_text_18 rfl rfl ?_
    refine jr_get (v := .ref (g 12)) ok 0 f_WT_51 rfl rfl d_WT_text_19 ?_
    refine jr_iload_n ok 1 d_WT_text_22 rfl rfl ?_
    refine jr_iload_n ok 2 d_WT_text_23 rfl rfl ?_
    refine jr_iload_n ok 3 d_WT_text_24 rfl rfl ?_
    obtain ⟨r7, S7, hc7, hs⟩ := mb2_some hs
    refine jq_cV1 ok hR m_WT_236 (r_Gr_letterAt (jx_l X) D g A0 C0 S5 v1 v2 v3 r7 S7  hc7) (sg_atk 15 rfl) rfl rfl rfl (Nat.le_of_ble_eq_true rfl) ⟨Nat.le_of_ble_eq_true rfl, Nat.le_of_ble_eq_true rfl⟩ ⟨Nat.sub_le _ _, Nat.sub_le _ _⟩ d_WT_text_25 ?_
    show jw X (C0.bc - C0.bc) (C0.bs - C0.bs) (wtL D g A0 C0 S7) [(0, .ref (g 0)), (1, .int (ii v1)), (2, .int (ii v2)), (3, .int (ii v3))] 28 [.int (ii r7)]
    exact jt_iret (ψ := aS A0) (Lf := wtL D g) (bc := CW.bc) (bs := CW.bs) A0 ok fin hcc hs d_WT_text_28
  · replace hs := oq_pos c6 hs
    obtain ⟨hb8, hs⟩ := oq_if hs
    exact jt_throw (vf := fun _ r => some (.int (ii r))) (ψ := aS A0) (Lf := wtL D g) (bc := CW.bc) (bs := CW.bs) (e := (CW.w_bs (CW.w_bc C0 (C0.bc - 1)) (C0.bs - 6))) (z := 0) (tx := "there is no such row") 3 A0 rfl (by decide) rfl hnt ok hTT hnh w_585 w_586 w_23 (by decide +kernel) (by decide +kernel) jTa_125 d_WT_text_8 d_WT_text_11 d_WT_text_12 d_WT_text_14 d_WT_text_17 hR ⟨Nat.le_of_ble_eq_true rfl, Nat.le_of_ble_eq_true rfl⟩ hb8 rfl rfl fin hcc hs rfl

def s_WT_isThere (C0 : CW) (S : WS) (v1 : Int) (v2 : Int) : Option ((Int × Int) × CW × WS) := mb3 (s_WT_tableWith C0 S v1 v2) (fun q6 e6 S6 => if q6.1 = 0 then (fun r6 => if r6 < 19 then mb2 (s_Gd_placeOf e6 S6 r6 v1 v2) (fun r8 S8 => mb2 (s_Gd_has e6 S8 r6 r8) (fun r9 S9 => if r9 = 0 ∨ r9 = 1 then some ((0, r9), e6, S9) else none)) else none) q6.2 else some ((q6.1, 0), e6, S6))
set_option maxHeartbeats 4000000 in
set_option maxRecDepth 100000 in
theorem r_WT_isThere (l : Launch) (hnt : jl_nt l) (D : jd_T) (g : Nat → Nat) (A0 : AW) (C0 : CW) (S : WS) (v1 : Int) (v2 : Int) (t : Int) (r : Int) (c9 : CW) (S9 : WS)  (hs : s_WT_isThere C0 S v1 v2 = some ((t, r), c9, S9)) : jgT_C l D y_WT_isThere b_WT_isThere 4 (some .boolean) { frames := 7, cells := C0.bc, slots := C0.bs, locals := 113 } [.ref (g 0), .int (ii v1), .int (ii v2)] (wtL D g A0 C0 S) (fun q : AW × Nat => (oT t (some (.int (ii r))) q.2, (c9.bc ≤ C0.bc ∧ c9.bs ≤ C0.bs) ∧ aS A0 q.1, wtL D g q.1 c9 S9 ++ xT D t q.2, C0.bc - c9.bc, C0.bs - c9.bs)) := by
  refine jgT_of rfl (Nat.le_of_ble_eq_true rfl) ?_
  intro X hl hR hN ok hI hTT hnh fin
  subst hl
  have hcc : (C0.bc ≤ C0.bc ∧ C0.bs ≤ C0.bs) ∧ aS A0 A0 := ⟨⟨Nat.le_refl _, Nat.le_refl _⟩, fun _ _ _ => rfl⟩
  refine jr_widen (cs' := C0.bc - C0.bc) (sl' := C0.bs - C0.bs) (Nat.zero_le _) (Nat.zero_le _) ?_
  show jw X (C0.bc - C0.bc) (C0.bs - C0.bs) (wtL D g A0 C0 S) [(0, .ref (g 0)), (1, .int (ii v1)), (2, .int (ii v2))] 0 []
  rw [s_WT_isThere] at hs
  refine jr_aload_n ok 0 d_WT_isThere_0 rfl rfl ?_
  refine jr_iload_n ok 1 d_WT_isThere_1 rfl rfl ?_
  refine jr_iload_n ok 2 d_WT_isThere_2 rfl rfl ?_
  obtain ⟨⟨t6, r6⟩, e6, S6, hc6, hs⟩ := mb3_some hs
  refine jt_callV (vf := fun _ => some (.ref (g (19 + r6)))) (Lo := fun A => wtL D g A e6 S6) ok hI hTT hR hcc.1 m_WT_239 (r_WT_tableWith (jx_l X) hnt D g A0 C0 S v1 v2 t6 r6 e6 S6  hc6) (sg_atk 0 rfl) rfl rfl rfl (Nat.le_of_ble_eq_true rfl) ⟨Nat.le_of_ble_eq_true rfl, Nat.le_of_ble_eq_true rfl⟩ d_WT_isThere_3 (fun z6 A6 hcb6 hst6 => ?_) (fun z6 A6 x6 hcb6 hst6 => jt_prop (vf := fun _ r => some (.int (ii r))) (ψ := aS A0) (Lf := wtL D g) (bc := CW.bc) (bs := CW.bs) z6 A6 ok hnh fin ⟨hcb6, aS_tr hcc.2 hst6⟩ (oq_neg z6 hs))
  replace hs := oq_pos z6 hs
  have hcc6 : (e6.bc ≤ C0.bc ∧ e6.bs ≤ C0.bs) ∧ aS A0 A6 := ⟨hcb6, aS_tr hcc.2 hst6⟩
  obtain ⟨hb7, hs⟩ := oq_if hs
  show jw X (C0.bc - e6.bc) (C0.bs - e6.bs) (wtL D g A6 e6 S6) [(0, .ref (g 0)), (1, .int (ii v1)), (2, .int (ii v2))] 6 [.ref (g (19 + r6))]
  refine jr_astore_n [(3, .ref (g (19 + r6))), (0, .ref (g 0)), (1, .int (ii v1)), (2, .int (ii v2))] ok d_WT_isThere_6 rfl (by rw [hN]; decide) rfl ?_
  refine jr_aload_n ok 0 d_WT_isThere_7 rfl rfl ?_
  refine jr_aload_n ok 0 d_WT_isThere_8 rfl rfl ?_
  refine jr_iload_n ok 2 d_WT_isThere_9 rfl rfl ?_
  refine jr_iload_n ok 3 d_WT_isThere_10 rfl rfl ?_
  obtain ⟨r8, S8, hc8, hs⟩ := mb2_some hs
  refine jq_cV1 ok hR m_WT_243 (r_Gd_placeOf (jx_l X) D g A6 e6 S6 r6 v1 v2 r8 S8 hb7 hc8) (sg_atp (F := grdW D g A6 e6 S6) 23 rfl hb7 0 rfl) rfl rfl rfl (Nat.le_of_ble_eq_true rfl) ⟨Nat.le_of_ble_eq_true rfl, Nat.le_of_ble_eq_true rfl⟩ ⟨Nat.sub_le _ _, Nat.sub_le _ _⟩ d_WT_isThere_11 ?_
  show jw X (C0.bc - e6.bc) (C0.bs - e6.bs) (wtL D g A6 e6 S8) [(3, .ref (g (19 + r6))), (0, .ref (g 0)), (1, .int (ii v1)), (2, .int (ii v2))] 14 [.int (ii r8), .ref (g (19 + r6))]
  obtain ⟨r9, S9, hc9, hs⟩ := mb2_some hs
  refine jq_cV1 ok hR m_WT_248 (r_Gd_has (jx_l X) D g A6 e6 S8 r6 r8 r9 S9 hb7 hc9) (sg_atp (F := grdW D g A6 e6 S8) 23 rfl hb7 0 rfl) rfl rfl rfl (Nat.le_of_ble_eq_true rfl) ⟨Nat.le_of_ble_eq_true rfl, Nat.le_of_ble_eq_true rfl⟩ ⟨Nat.sub_le _ _, Nat.sub_le _ _⟩ d_WT_isThere_14 ?_
  show jw X (C0.bc - e6.bc) (C0.bs - e6.bs) (wtL D g A6 e6 S9) [(3, .ref (g (19 + r6))), (0, .ref (g 0)), (1, .int (ii v1)), (2, .int (ii v2))] 17 [.int (ii r9)]
  obtain ⟨hb10, hs⟩ := oq_if hs
  exact jt_zret (ψ := aS A0) (Lf := wtL D g) (bc := CW.bc) (bs := CW.bs) A6 ok (nz_b hb10) fin hcc6 hs d_WT_isThere_17

def s_WT_cell (C0 : CW) (S : WS) (v1 : Int) (v2 : Int) : Option ((Int × Int64) × CW × WS) := mb3 (s_WT_tableWith C0 S v1 v2) (fun q5 e5 S5 => if q5.1 = 0 then (fun r5 => if r5 < 19 then mb2 (s_Gd_placeOf e5 S5 r5 v1 v2) (fun r7 S7 => mb2 (s_Gd_numberAt e5 S7 r5 r7) (fun r8 S8 => some ((0, r8), e5, S8))) else none) q5.2 else some ((q5.1, ll 0), e5, S5))
set_option maxHeartbeats 4000000 in
set_option maxRecDepth 100000 in
theorem r_WT_cell (l : Launch) (hnt : jl_nt l) (D : jd_T) (g : Nat → Nat) (A0 : AW) (C0 : CW) (S : WS) (v1 : Int) (v2 : Int) (t : Int) (r : Int64) (c9 : CW) (S9 : WS)  (hs : s_WT_cell C0 S v1 v2 = some ((t, r), c9, S9)) : jgT_C l D y_WT_cell b_WT_cell 4 (some .long) { frames := 7, cells := C0.bc, slots := C0.bs, locals := 113 } [.ref (g 0), .int (ii v1), .int (ii v2)] (wtL D g A0 C0 S) (fun q : AW × Nat => (oT t (some (.long r)) q.2, (c9.bc ≤ C0.bc ∧ c9.bs ≤ C0.bs) ∧ aS A0 q.1, wtL D g q.1 c9 S9 ++ xT D t q.2, C0.bc - c9.bc, C0.bs - c9.bs)) := by
  refine jgT_of rfl (Nat.le_of_ble_eq_true rfl) ?_
  intro X hl hR hN ok hI hTT hnh fin
  subst hl
  have hcc : (C0.bc ≤ C0.bc ∧ C0.bs ≤ C0.bs) ∧ aS A0 A0 := ⟨⟨Nat.le_refl _, Nat.le_refl _⟩, fun _ _ _ => rfl⟩
  refine jr_widen (cs' := C0.bc - C0.bc) (sl' := C0.bs - C0.bs) (Nat.zero_le _) (Nat.zero_le _) ?_
  show jw X (C0.bc - C0.bc) (C0.bs - C0.bs) (wtL D g A0 C0 S) [(0, .ref (g 0)), (1, .int (ii v1)), (2, .int (ii v2))] 0 []
  rw [s_WT_cell] at hs
  refine jr_aload_n ok 0 d_WT_cell_0 rfl rfl ?_
  refine jr_iload_n ok 1 d_WT_cell_1 rfl rfl ?_
  refine jr_iload_n ok 2 d_WT_cell_2 rfl rfl ?_
  obtain ⟨⟨t5, r5⟩, e5, S5, hc5, hs⟩ := mb3_some hs
  refine jt_callV (vf := fun _ => some (.ref (g (19 + r5)))) (Lo := fun A => wtL D g A e5 S5) ok hI hTT hR hcc.1 m_WT_239 (r_WT_tableWith (jx_l X) hnt D g A0 C0 S v1 v2 t5 r5 e5 S5  hc5) (sg_atk 0 rfl) rfl rfl rfl (Nat.le_of_ble_eq_true rfl) ⟨Nat.le_of_ble_eq_true rfl, Nat.le_of_ble_eq_true rfl⟩ d_WT_cell_3 (fun z5 A5 hcb5 hst5 => ?_) (fun z5 A5 x5 hcb5 hst5 => jt_prop (vf := fun _ r => some (.long r)) (ψ := aS A0) (Lf := wtL D g) (bc := CW.bc) (bs := CW.bs) z5 A5 ok hnh fin ⟨hcb5, aS_tr hcc.2 hst5⟩ (oq_neg z5 hs))
  replace hs := oq_pos z5 hs
  have hcc5 : (e5.bc ≤ C0.bc ∧ e5.bs ≤ C0.bs) ∧ aS A0 A5 := ⟨hcb5, aS_tr hcc.2 hst5⟩
  obtain ⟨hb6, hs⟩ := oq_if hs
  show jw X (C0.bc - e5.bc) (C0.bs - e5.bs) (wtL D g A5 e5 S5) [(0, .ref (g 0)), (1, .int (ii v1)), (2, .int (ii v2))] 6 [.ref (g (19 + r5))]
  refine jr_astore_n [(3, .ref (g (19 + r5))), (0, .ref (g 0)), (1, .int (ii v1)), (2, .int (ii v2))] ok d_WT_cell_6 rfl (by rw [hN]; decide) rfl ?_
  refine jr_aload_n ok 0 d_WT_cell_7 rfl rfl ?_
  refine jr_aload_n ok 0 d_WT_cell_8 rfl rfl ?_
  refine jr_iload_n ok 2 d_WT_cell_9 rfl rfl ?_
  refine jr_iload_n ok 3 d_WT_cell_10 rfl rfl ?_
  obtain ⟨r7, S7, hc7, hs⟩ := mb2_some hs
  refine jq_cV1 ok hR m_WT_243 (r_Gd_placeOf (jx_l X) D g A5 e5 S5 r5 v1 v2 r7 S7 hb6 hc7) (sg_atp (F := grdW D g A5 e5 S5) 23 rfl hb6 0 rfl) rfl rfl rfl (Nat.le_of_ble_eq_true rfl) ⟨Nat.le_of_ble_eq_true rfl, Nat.le_of_ble_eq_true rfl⟩ ⟨Nat.sub_le _ _, Nat.sub_le _ _⟩ d_WT_cell_11 ?_
  show jw X (C0.bc - e5.bc) (C0.bs - e5.bs) (wtL D g A5 e5 S7) [(3, .ref (g (19 + r5))), (0, .ref (g 0)), (1, .int (ii v1)), (2, .int (ii v2))] 14 [.int (ii r7), .ref (g (19 + r5))]
  obtain ⟨r8, S8, hc8, hs⟩ := mb2_some hs
  refine jq_cV1 ok hR m_WT_251 (r_Gd_numberAt (jx_l X) D g A5 e5 S7 r5 r7 r8 S8 hb6 hc8) (sg_atp (F := grdW D g A5 e5 S7) 23 rfl hb6 0 rfl) rfl rfl rfl (Nat.le_of_ble_eq_true rfl) ⟨Nat.le_of_ble_eq_true rfl, Nat.le_of_ble_eq_true rfl⟩ ⟨Nat.sub_le _ _, Nat.sub_le _ _⟩ d_WT_cell_14 ?_
  show jw X (C0.bc - e5.bc) (C0.bs - e5.bs) (wtL D g A5 e5 S8) [(3, .ref (g (19 + r5))), (0, .ref (g 0)), (1, .int (ii v1)), (2, .int (ii v2))] 17 [.long r8]
  exact jt_lret (ψ := aS A0) (Lf := wtL D g) (bc := CW.bc) (bs := CW.bs) A5 ok fin hcc5 hs d_WT_cell_17

def s_WT_last (C0 : CW) (S : WS) (v1 : Int) : Option ((Int × Int64) × CW × WS) := mb3 (s_WT_existing C0 S v1) (fun q6 e6 S6 => if q6.1 = 0 then (fun r6 => if r6 < e6.N then mb2 (s_Se_points e6 S6 r6) (fun r8 S8 => if r8 < e6.N then mb2 (s_Pt_lastTime e6 S8 r8) (fun r10 S10 => some ((0, r10), e6, S10)) else none) else none) q6.2 else some ((q6.1, ll 0), e6, S6))
set_option maxHeartbeats 4000000 in
set_option maxRecDepth 100000 in
theorem r_WT_last (l : Launch) (hnt : jl_nt l) (D : jd_T) (g : Nat → Nat) (A0 : AW) (C0 : CW) (S : WS) (v1 : Int) (t : Int) (r : Int64) (c9 : CW) (S9 : WS)  (hs : s_WT_last C0 S v1 = some ((t, r), c9, S9)) : jgT_C l D y_WT_last b_WT_last 2 (some .long) { frames := 7, cells := C0.bc, slots := C0.bs, locals := 112 } [.ref (g 0), .int (ii v1)] (wtL D g A0 C0 S) (fun q : AW × Nat => (oT t (some (.long r)) q.2, (c9.bc ≤ C0.bc ∧ c9.bs ≤ C0.bs) ∧ aS A0 q.1, wtL D g q.1 c9 S9 ++ xT D t q.2, C0.bc - c9.bc, C0.bs - c9.bs)) := by
  refine jgT_of rfl (Nat.le_of_ble_eq_true rfl) ?_
  intro X hl hR hN ok hI hTT hnh fin
  subst hl
  have hcc : (C0.bc ≤ C0.bc ∧ C0.bs ≤ C0.bs) ∧ aS A0 A0 := ⟨⟨Nat.le_refl _, Nat.le_refl _⟩, fun _ _ _ => rfl⟩
  refine jr_widen (cs' := C0.bc - C0.bc) (sl' := C0.bs - C0.bs) (Nat.zero_le _) (Nat.zero_le _) ?_
  show jw X (C0.bc - C0.bc) (C0.bs - C0.bs) (wtL D g A0 C0 S) [(0, .ref (g 0)), (1, .int (ii v1))] 0 []
  rw [s_WT_last] at hs
  refine jr_aload_n ok 0 d_WT_last_0 rfl rfl ?_
  refine jr_iload_n ok 1 d_WT_last_1 rfl rfl ?_
  obtain ⟨⟨t6, r6⟩, e6, S6, hc6, hs⟩ := mb3_some hs
  refine jt_callV (vf := fun A => some (.ref (A.us r6 0))) (Lo := fun A => wtL D g A e6 S6) ok hI hTT hR hcc.1 m_WT_126 (r_WT_existing (jx_l X) hnt D g A0 C0 S v1 t6 r6 e6 S6  hc6) (sg_atk 0 rfl) rfl rfl rfl (Nat.le_of_ble_eq_true rfl) ⟨Nat.le_of_ble_eq_true rfl, Nat.le_of_ble_eq_true rfl⟩ d_WT_last_2 (fun z6 A6 hcb6 hst6 => ?_) (fun z6 A6 x6 hcb6 hst6 => jt_prop (vf := fun _ r => some (.long r)) (ψ := aS A0) (Lf := wtL D g) (bc := CW.bc) (bs := CW.bs) z6 A6 ok hnh fin ⟨hcb6, aS_tr hcc.2 hst6⟩ (oq_neg z6 hs))
  replace hs := oq_pos z6 hs
  have hcc6 : (e6.bc ≤ C0.bc ∧ e6.bs ≤ C0.bs) ∧ aS A0 A6 := ⟨hcb6, aS_tr hcc.2 hst6⟩
  obtain ⟨hb7, hs⟩ := oq_if hs
  show jw X (C0.bc - e6.bc) (C0.bs - e6.bs) (wtL D g A6 e6 S6) [(0, .ref (g 0)), (1, .int (ii v1))] 5 [.ref (A6.us r6 0)]
  obtain ⟨r8, S8, hc8, hs⟩ := mb2_some hs
  refine jq_cV1 ok hR m_WT_136 (r_Se_points (jx_l X) D g A6 e6 S6 r6 r8 S8 hb7 hc8) (sg_atp (F := serW D A6 e6 S6) 5 rfl hb7 0 rfl) rfl rfl rfl (Nat.le_of_ble_eq_true rfl) ⟨Nat.le_of_ble_eq_true rfl, Nat.le_of_ble_eq_true rfl⟩ ⟨Nat.sub_le _ _, Nat.sub_le _ _⟩ d_WT_last_5 ?_
  obtain ⟨hb9, hs⟩ := oq_if hs
  show jw X (C0.bc - e6.bc) (C0.bs - e6.bs) (wtL D g A6 e6 S8) [(0, .ref (g 0)), (1, .int (ii v1))] 8 [.ref (A6.us r8 5)]
  obtain ⟨r10, S10, hc10, hs⟩ := mb2_some hs
  refine jq_cV1 ok hR m_WT_254 (r_Pt_lastTime (jx_l X) D g A6 e6 S8 r8 r10 S10 hb9 hc10) (sg_atp (F := serW D A6 e6 S8) 5 rfl hb9 5 rfl) rfl rfl rfl (Nat.le_of_ble_eq_true rfl) ⟨Nat.le_of_ble_eq_true rfl, Nat.le_of_ble_eq_true rfl⟩ ⟨Nat.sub_le _ _, Nat.sub_le _ _⟩ d_WT_last_8 ?_
  show jw X (C0.bc - e6.bc) (C0.bs - e6.bs) (wtL D g A6 e6 S10) [(0, .ref (g 0)), (1, .int (ii v1))] 11 [.long r10]
  exact jt_lret (ψ := aS A0) (Lf := wtL D g) (bc := CW.bc) (bs := CW.bs) A6 ok fin hcc6 hs d_WT_last_11

def q_WT_pack_33 (c : CW)  (S : WS) : Option ((Int × Int) × CW × WS) := mb2 (s_St_packHead c S ) (fun r7 S7 => some ((0, r7), c, S7))

def s_WT_pack (C0 : CW) (S : WS)  : Option ((Int × Int) × CW × WS) := mb2 (s_St_headSize C0 S ) (fun r8 S8 => if w32 r8 ≤ 0 then q_WT_pack_33 C0 S8 else mb2 (s_St_parcels C0 S8 ) (fun r10 S10 => if w32 r10 < 32 then q_WT_pack_33 C0 S10 else if 1 ≤ C0.bc ∧ 6 ≤ C0.bs then some ((1, 0), (CW.w_bs (CW.w_bc C0 (C0.bc - 1)) (C0.bs - 6)), S10) else none))
set_option maxHeartbeats 4000000 in
set_option maxRecDepth 100000 in
theorem r_WT_pack (l : Launch) (hnt : jl_nt l) (D : jd_T) (g : Nat → Nat) (A0 : AW) (C0 : CW) (S : WS)  (t : Int) (r : Int) (c9 : CW) (S9 : WS)  (hs : s_WT_pack C0 S  = some ((t, r), c9, S9)) : jgT_C l D y_WT_pack b_WT_pack 1 (some .int) { frames := 6, cells := C0.bc, slots := C0.bs, locals := 90 } [.ref (g 0)] (wtL D g A0 C0 S) (fun q : AW × Nat => (oT t (some (.int (ii r))) q.2, (c9.bc ≤ C0.bc ∧ c9.bs ≤ C0.bs) ∧ aS A0 q.1, wtL D g q.1 c9 S9 ++ xT D t q.2, C0.bc - c9.bc, C0.bs - c9.bs)) := by
  refine jgT_of rfl (Nat.le_of_ble_eq_true rfl) ?_
  intro X hl hR hN ok hI hTT hnh fin
  subst hl
  have hcc : (C0.bc ≤ C0.bc ∧ C0.bs ≤ C0.bs) ∧ aS A0 A0 := ⟨⟨Nat.le_refl _, Nat.le_refl _⟩, fun _ _ _ => rfl⟩
  have B_33 : ∀ (A : AW) (c : CW) (S : WS), (c.bc ≤ C0.bc ∧ c.bs ≤ C0.bs) ∧ aS A0 A → q_WT_pack_33 c S = some ((t, r), c9, S9) → jw X (C0.bc - c.bc) (C0.bs - c.bs) (wtL D g A c S) [(0, .ref (g 0))] 33 [] := by
    intro A c S hcc hs
    rw [q_WT_pack_33] at hs
    refine jr_aload_n ok 0 d_WT_pack_33 rfl rfl ?_
    refine jr_get (v := .ref (g 2)) ok 0 f_WT_19 rfl rfl d_WT_pack_34 ?_
    obtain ⟨r7, S7, hc7, hs⟩ := mb2_some hs
    refine jq_cV1 ok hR m_WT_262 (r_St_packHead (jx_l X) D g A c S  r7 S7  hc7) (sg_atk 3 rfl) rfl rfl rfl (Nat.le_of_ble_eq_true rfl) ⟨Nat.le_of_ble_eq_true rfl, Nat.le_of_ble_eq_true rfl⟩ ⟨Nat.sub_le _ _, Nat.sub_le _ _⟩ d_WT_pack_37 ?_
    show jw X (C0.bc - c.bc) (C0.bs - c.bs) (wtL D g A c S7) [(0, .ref (g 0))] 40 [.int (ii r7)]
    exact jt_iret (ψ := aS A0) (Lf := wtL D g) (bc := CW.bc) (bs := CW.bs) A ok fin hcc hs d_WT_pack_40
  refine jr_widen (cs' := C0.bc - C0.bc) (sl' := C0.bs - C0.bs) (Nat.zero_le _) (Nat.zero_le _) ?_
  show jw X (C0.bc - C0.bc) (C0.bs - C0.bs) (wtL D g A0 C0 S) [(0, .ref (g 0))] 0 []
  rw [s_WT_pack] at hs
  refine jr_aload_n ok 0 d_WT_pack_0 rfl rfl ?_
  refine jr_get (v := .ref (g 2)) ok 0 f_WT_19 rfl rfl d_WT_pack_1 ?_
  obtain ⟨r8, S8, hc8, hs⟩ := mb2_some hs
  refine jq_cV1 ok hR m_WT_155 (r_St_headSize (jx_l X) D g A0 C0 S  r8 S8  hc8) (sg_atk 3 rfl) rfl rfl rfl (Nat.le_of_ble_eq_true rfl) ⟨Nat.le_of_ble_eq_true rfl, Nat.le_of_ble_eq_true rfl⟩ ⟨Nat.sub_le _ _, Nat.sub_le _ _⟩ d_WT_pack_4 ?_
  show jw X (C0.bc - C0.bc) (C0.bs - C0.bs) (wtL D g A0 C0 S8) [(0, .ref (g 0))] 7 [.int (ii r8)]
  refine jr_wif_le 33 ok rfl d_WT_pack_7 (by decide) (fun c9 => ?_) (fun c9 => ?_)
  · replace hs := oq_pos c9 hs
    exact jr_lv [0] rfl (B_33 A0 C0 S8 hcc hs)
  · replace hs := oq_neg c9 hs
    refine jr_aload_n ok 0 d_WT_pack_10 rfl rfl ?_
    refine jr_get (v := .ref (g 2)) ok 0 f_WT_19 rfl rfl d_WT_pack_11 ?_
    obtain ⟨r10, S10, hc10, hs⟩ := mb2_some hs
    refine jq_cV1 ok hR m_WT_257 (r_St_parcels (jx_l X) D g A0 C0 S8  r10 S10  hc10) (sg_atk 3 rfl) rfl rfl rfl (Nat.le_of_ble_eq_true rfl) ⟨Nat.le_of_ble_eq_true rfl, Nat.le_of_ble_eq_true rfl⟩ ⟨Nat.sub_le _ _, Nat.sub_le _ _⟩ d_WT_pack_14 ?_
    show jw X (C0.bc - C0.bc) (C0.bs - C0.bs) (wtL D g A0 C0 S10) [(0, .ref (g 0))] 17 [.int (ii r10)]
    refine jr_bipush ok d_WT_pack_17 (by decide +kernel) ?_
    refine jr_wicmp_lt 33 ok rfl (show w32 32 = 32 by decide) d_WT_pack_19 (by decide) (fun c11 => ?_) (fun c11 => ?_)
    · replace hs := oq_pos c11 hs
      exact jr_lv [0] rfl (B_33 A0 C0 S10 hcc hs)
    · replace hs := oq_neg c11 hs
      obtain ⟨hb12, hs⟩ := oq_if hs
      exact jt_throwW (vf := fun _ r => some (.int (ii r))) (ψ := aS A0) (Lf := wtL D g) (bc := CW.bc) (bs := CW.bs) (e := (CW.w_bs (CW.w_bc C0 (C0.bc - 1)) (C0.bs - 6))) (z := 0) (tx := "there are 32 parcels") 1 A0 rfl (by decide) rfl hnt ok hTT hnh w_320 w_321 w_15 (by decide +kernel) (by decide +kernel) jTa_73 d_WT_pack_22 d_WT_pack_25 d_WT_pack_26 d_WT_pack_29 d_WT_pack_32 hR ⟨Nat.le_of_ble_eq_true rfl, Nat.le_of_ble_eq_true rfl⟩ hb12 rfl rfl fin hcc hs rfl

def s_WT_count (C0 : CW) (S : WS) (v1 : Int) : Option ((Int × Int) × CW × WS) := if w32 v1 = 0 then mb2 (s_St_size C0 S ) (fun r13 S13 => some ((0, r13), C0, S13)) else if w32 v1 = 1 then mb2 (s_St_headSize C0 S ) (fun r15 S15 => some ((0, r15), C0, S15)) else if w32 v1 = 2 then mb2 (s_St_parcels C0 S ) (fun r17 S17 => some ((0, r17), C0, S17)) else if w32 v1 = 3 then mb2 (s_St_scars C0 S ) (fun r19 S19 => some ((0, r19), C0, S19)) else if w32 v1 = 4 then mb2 (s_St_seenPoints C0 S ) (fun r21 S21 => some ((0, r21), C0, S21)) else if 1 ≤ C0.bc ∧ 6 ≤ C0.bs then some ((2, 0), (CW.w_bs (CW.w_bc C0 (C0.bc - 1)) (C0.bs - 6)), S) else none
set_option maxHeartbeats 4000000 in
set_option maxRecDepth 100000 in
theorem r_WT_count (l : Launch) (hnt : jl_nt l) (D : jd_T) (g : Nat → Nat) (A0 : AW) (C0 : CW) (S : WS) (v1 : Int) (t : Int) (r : Int) (c9 : CW) (S9 : WS)  (hs : s_WT_count C0 S v1 = some ((t, r), c9, S9)) : jgT_C l D y_WT_count b_WT_count 2 (some .int) { frames := 6, cells := C0.bc, slots := C0.bs, locals := 90 } [.ref (g 0), .int (ii v1)] (wtL D g A0 C0 S) (fun q : AW × Nat => (oT t (some (.int (ii r))) q.2, (c9.bc ≤ C0.bc ∧ c9.bs ≤ C0.bs) ∧ aS A0 q.1, wtL D g q.1 c9 S9 ++ xT D t q.2, C0.bc - c9.bc, C0.bs - c9.bs)) := by
  refine jgT_of rfl (Nat.le_of_ble_eq_true rfl) ?_
  intro X hl hR hN ok hI hTT hnh fin
  subst hl
  have hcc : (C0.bc ≤ C0.bc ∧ C0.bs ≤ C0.bs) ∧ aS A0 A0 := ⟨⟨Nat.le_refl _, Nat.le_refl _⟩, fun _ _ _ => rfl⟩
  refine jr_widen (cs' := C0.bc - C0.bc) (sl' := C0.bs - C0.bs) (Nat.zero_le _) (Nat.zero_le _) ?_
  show jw X (C0.bc - C0.bc) (C0.bs - C0.bs) (wtL D g A0 C0 S) [(0, .ref (g 0)), (1, .int (ii v1))] 0 []
  rw [s_WT_count] at hs
  refine jr_iload_n ok 1 d_WT_count_0 rfl rfl ?_
  by_cases c12 : w32 v1 = 0
  · replace hs := oq_pos c12 hs
    refine jr_wtab (off := 35) 36 c12 ok d_WT_count_1 (by decide) (by decide) rfl (by decide) ?_
    refine jr_aload_n ok 0 d_WT_count_36 rfl rfl ?_
    refine jr_get (v := .ref (g 2)) ok 0 f_WT_19 rfl rfl d_WT_count_37 ?_
    obtain ⟨r13, S13, hc13, hs⟩ := mb2_some hs
    refine jq_cV1 ok hR m_WT_265 (r_St_size (jx_l X) D g A0 C0 S  r13 S13  hc13) (sg_atk 3 rfl) rfl rfl rfl (Nat.le_of_ble_eq_true rfl) ⟨Nat.le_of_ble_eq_true rfl, Nat.le_of_ble_eq_true rfl⟩ ⟨Nat.sub_le _ _, Nat.sub_le _ _⟩ d_WT_count_40 ?_
    show jw X (C0.bc - C0.bc) (C0.bs - C0.bs) (wtL D g A0 C0 S13) [(0, .ref (g 0)), (1, .int (ii v1))] 43 [.int (ii r13)]
    exact jt_iret (ψ := aS A0) (Lf := wtL D g) (bc := CW.bc) (bs := CW.bs) A0 ok fin hcc hs d_WT_count_43
  · replace hs := oq_neg c12 hs
    by_cases c14 : w32 v1 = 1
    · replace hs := oq_pos c14 hs
      refine jr_wtab (off := 43) 44 c14 ok d_WT_count_1 (by decide) (by decide) rfl (by decide) ?_
      refine jr_aload_n ok 0 d_WT_count_44 rfl rfl ?_
      refine jr_get (v := .ref (g 2)) ok 0 f_WT_19 rfl rfl d_WT_count_45 ?_
      obtain ⟨r15, S15, hc15, hs⟩ := mb2_some hs
      refine jq_cV1 ok hR m_WT_155 (r_St_headSize (jx_l X) D g A0 C0 S  r15 S15  hc15) (sg_atk 3 rfl) rfl rfl rfl (Nat.le_of_ble_eq_true rfl) ⟨Nat.le_of_ble_eq_true rfl, Nat.le_of_ble_eq_true rfl⟩ ⟨Nat.sub_le _ _, Nat.sub_le _ _⟩ d_WT_count_48 ?_
      show jw X (C0.bc - C0.bc) (C0.bs - C0.bs) (wtL D g A0 C0 S15) [(0, .ref (g 0)), (1, .int (ii v1))] 51 [.int (ii r15)]
      exact jt_iret (ψ := aS A0) (Lf := wtL D g) (bc := CW.bc) (bs := CW.bs) A0 ok fin hcc hs d_WT_count_51
    · replace hs := oq_neg c14 hs
      by_cases c16 : w32 v1 = 2
      · replace hs := oq_pos c16 hs
        refine jr_wtab (off := 51) 52 c16 ok d_WT_count_1 (by decide) (by decide) rfl (by decide) ?_
        refine jr_aload_n ok 0 d_WT_count_52 rfl rfl ?_
        refine jr_get (v := .ref (g 2)) ok 0 f_WT_19 rfl rfl d_WT_count_53 ?_
        obtain ⟨r17, S17, hc17, hs⟩ := mb2_some hs
        refine jq_cV1 ok hR m_WT_257 (r_St_parcels (jx_l X) D g A0 C0 S  r17 S17  hc17) (sg_atk 3 rfl) rfl rfl rfl (Nat.le_of_ble_eq_true rfl) ⟨Nat.le_of_ble_eq_true rfl, Nat.le_of_ble_eq_true rfl⟩ ⟨Nat.sub_le _ _, Nat.sub_le _ _⟩ d_WT_count_56 ?_
        show jw X (C0.bc - C0.bc) (C0.bs - C0.bs) (wtL D g A0 C0 S17) [(0, .ref (g 0)), (1, .int (ii v1))] 59 [.int (ii r17)]
        exact jt_iret (ψ := aS A0) (Lf := wtL D g) (bc := CW.bc) (bs := CW.bs) A0 ok fin hcc hs d_WT_count_59
      · replace hs := oq_neg c16 hs
        by_cases c18 : w32 v1 = 3
        · replace hs := oq_pos c18 hs
          refine jr_wtab (off := 59) 60 c18 ok d_WT_count_1 (by decide) (by decide) rfl (by decide) ?_
          refine jr_aload_n ok 0 d_WT_count_60 rfl rfl ?_
          refine jr_get (v := .ref (g 2)) ok 0 f_WT_19 rfl rfl d_WT_count_61 ?_
          obtain ⟨r19, S19, hc19, hs⟩ := mb2_some hs
          refine jq_cV1 ok hR m_WT_182 (r_St_scars (jx_l X) D g A0 C0 S  r19 S19  hc19) (sg_atk 3 rfl) rfl rfl rfl (Nat.le_of_ble_eq_true rfl) ⟨Nat.le_of_ble_eq_true rfl, Nat.le_of_ble_eq_true rfl⟩ ⟨Nat.sub_le _ _, Nat.sub_le _ _⟩ d_WT_count_64 ?_
          show jw X (C0.bc - C0.bc) (C0.bs - C0.bs) (wtL D g A0 C0 S19) [(0, .ref (g 0)), (1, .int (ii v1))] 67 [.int (ii r19)]
          exact jt_iret (ψ := aS A0) (Lf := wtL D g) (bc := CW.bc) (bs := CW.bs) A0 ok fin hcc hs d_WT_count_67
        · replace hs := oq_neg c18 hs
          by_cases c20 : w32 v1 = 4
          · replace hs := oq_pos c20 hs
            refine jr_wtab (off := 67) 68 c20 ok d_WT_count_1 (by decide) (by decide) rfl (by decide) ?_
            refine jr_aload_n ok 0 d_WT_count_68 rfl rfl ?_
            refine jr_get (v := .ref (g 2)) ok 0 f_WT_19 rfl rfl d_WT_count_69 ?_
            obtain ⟨r21, S21, hc21, hs⟩ := mb2_some hs
            refine jq_cV1 ok hR m_WT_266 (r_St_seenPoints (jx_l X) D g A0 C0 S  r21 S21  hc21) (sg_atk 3 rfl) rfl rfl rfl (Nat.le_of_ble_eq_true rfl) ⟨Nat.le_of_ble_eq_true rfl, Nat.le_of_ble_eq_true rfl⟩ ⟨Nat.sub_le _ _, Nat.sub_le _ _⟩ d_WT_count_72 ?_
            show jw X (C0.bc - C0.bc) (C0.bs - C0.bs) (wtL D g A0 C0 S21) [(0, .ref (g 0)), (1, .int (ii v1))] 75 [.int (ii r21)]
            exact jt_iret (ψ := aS A0) (Lf := wtL D g) (bc := CW.bc) (bs := CW.bs) A0 ok fin hcc hs d_WT_count_75
          · replace hs := oq_neg c20 hs
            refine jr_wtabD 76 rfl ok d_WT_count_1 (by omega) (by decide) ?_
            obtain ⟨hb22, hs⟩ := oq_if hs
            exact jt_throwW (vf := fun _ r => some (.int (ii r))) (ψ := aS A0) (Lf := wtL D g) (bc := CW.bc) (bs := CW.bs) (e := (CW.w_bs (CW.w_bc C0 (C0.bc - 1)) (C0.bs - 6))) (z := 0) (tx := "there is nothing of this kind to count") 2 A0 rfl (by decide) rfl hnt ok hTT hnh w_415 w_416 w_19 (by decide +kernel) (by decide +kernel) jTa_84 d_WT_count_76 d_WT_count_79 d_WT_count_80 d_WT_count_83 d_WT_count_86 hR ⟨Nat.le_of_ble_eq_true rfl, Nat.le_of_ble_eq_true rfl⟩ hb22 rfl rfl fin hcc hs rfl
