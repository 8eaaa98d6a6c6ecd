def s_Pt_valueAt (c : CW) (S : WS) (v0 : Nat) (v1 : Int) : Option (Int64 × WS) := if w32 v1 < 0 then some (ll 0, S) else if w32 (S.pt_size v0) ≤ w32 v1 then some (ll 0, S) else if (0 : Int) ≤ v1 ∧ v1 < (c.pv v0 : Int) then some (S.pt_values v0 v1, S) else none
set_option maxHeartbeats 4000000 in
set_option maxRecDepth 100000 in
theorem r_Pt_valueAt (l : Launch) (D : jd_T) (g : Nat → Nat) (A : AW) (c : CW) (S : WS) (v0 : Nat) (v1 : Int) (r : Int64) (S9 : WS) (hv0 : v0 < c.N) (hs : s_Pt_valueAt c S v0 v1 = some (r, S9)) : jc_C l D y_Pt_valueAt b_Pt_valueAt 2 (some .long) { frames := 0, cells := 0, slots := 0, locals := 0 } [.ref (A.us v0 5), .int (ii v1)] (wtL D g A c S) (fun _ : Unit => (.returned (some (.long r)), True, wtL D g A c S9)) := by
  refine jc_of rfl (Nat.le_of_ble_eq_true rfl) ?_
  intro X hl hR hN ok hnm fin
  subst hl
  show jw X 0 0 (wtL D g A c S) [(0, .ref (A.us v0 5)), (1, .int (ii v1))] 0 []
  rw [s_Pt_valueAt] at hs
  refine jr_iload_n ok 1 d_Pt_valueAt_0 rfl rfl ?_
  refine jr_wif_lt 21 ok rfl d_Pt_valueAt_1 (by decide) (fun c4 => ?_) (fun c4 => ?_)
  · replace hs := oq_pos c4 hs
    refine jr_lconst (z := 0) ok d_Pt_valueAt_21 (by decide +kernel) ?_
    exact jm_lret (Lf := wtL D g A c) ok fin hs d_Pt_valueAt_22
  · replace hs := oq_neg c4 hs
    refine jr_iload_n ok 1 d_Pt_valueAt_4 rfl rfl ?_
    refine jr_aload_n ok 0 d_Pt_valueAt_5 rfl rfl ?_
    refine jq_get (v := .int (ii (S.pt_size v0))) ok f_Pt_24 (sg_atp (F := serW D A c S) 5 rfl hv0 5 rfl) rfl d_Pt_valueAt_6 ?_
    refine jr_wicmp_ge 21 ok rfl rfl d_Pt_valueAt_9 (by decide) (fun c5 => ?_) (fun c5 => ?_)
    · replace hs := oq_pos c5 hs
      refine jr_lconst (z := 0) ok d_Pt_valueAt_21 (by decide +kernel) ?_
      exact jm_lret (Lf := wtL D g A c) ok fin hs d_Pt_valueAt_22
    · replace hs := oq_neg c5 hs
      refine jr_aload_n ok 0 d_Pt_valueAt_12 rfl rfl ?_
      refine jq_get (v := .ref (A.us v0 7)) ok f_Pt_15 (sg_atp (F := serW D A c S) 5 rfl hv0 5 rfl) rfl d_Pt_valueAt_13 ?_
      refine jr_iload_n ok 1 d_Pt_valueAt_16 rfl rfl ?_
      obtain ⟨hb6, hs⟩ := oq_if hs
      refine jq_lald ok (sg_atp (F := serW D A c S) 5 rfl hv0 7 rfl) rfl hb6.1 hb6.2 d_Pt_valueAt_17 ?_
      refine jr_goto 22 ok d_Pt_valueAt_18 (by decide) ?_
      exact jm_lret (Lf := wtL D g A c) ok fin hs d_Pt_valueAt_22

def s_Gr_groupOf (c : CW) (S : WS) (v1 : Int) : Option (Int × WS) := if w32 v1 < 0 then some (0, S) else if 256 ≤ w32 v1 then some (0, S) else if (0 : Int) ≤ v1 ∧ v1 < (256 : Int) then some (S.gr_groupOf v1, S) else none
set_option maxHeartbeats 4000000 in
set_option maxRecDepth 100000 in
theorem r_Gr_groupOf (l : Launch) (D : jd_T) (g : Nat → Nat) (A : AW) (c : CW) (S : WS) (v1 : Int) (r : Int) (S9 : WS)  (hs : s_Gr_groupOf c S v1 = some (r, S9)) : jc_C l D y_Gr_groupOf b_Gr_groupOf 2 (some .int) { frames := 0, cells := 0, slots := 0, locals := 0 } [.ref (g 12), .int (ii v1)] (wtL D g A c S) (fun _ : Unit => (.returned (some (.int (ii r))), True, wtL D g A c S9)) := by
  refine jc_of rfl (Nat.le_of_ble_eq_true rfl) ?_
  intro X hl hR hN ok hnm fin
  subst hl
  show jw X 0 0 (wtL D g A c S) [(0, .ref (g 12)), (1, .int (ii v1))] 0 []
  rw [s_Gr_groupOf] at hs
  refine jr_iload_n ok 1 d_Gr_groupOf_0 rfl rfl ?_
  refine jr_wif_lt 22 ok rfl d_Gr_groupOf_1 (by decide) (fun c4 => ?_) (fun c4 => ?_)
  · replace hs := oq_pos c4 hs
    refine jr_iconst ok d_Gr_groupOf_22 ?_
    exact jm_iret (Lf := wtL D g A c) ok fin hs d_Gr_groupOf_23
  · replace hs := oq_neg c4 hs
    refine jr_iload_n ok 1 d_Gr_groupOf_4 rfl rfl ?_
    refine jr_aload_n ok 0 d_Gr_groupOf_5 rfl rfl ?_
    refine jr_get (v := .ref (g 15)) ok 15 f_Gr_18 rfl rfl d_Gr_groupOf_6 ?_
    refine jr_alen_i ok 18 rfl rfl d_Gr_groupOf_9 ?_
    refine jr_wicmp_ge 22 ok rfl (show w32 256 = 256 by decide) d_Gr_groupOf_10 (by decide) (fun c5 => ?_) (fun c5 => ?_)
    · replace hs := oq_pos c5 hs
      refine jr_iconst ok d_Gr_groupOf_22 ?_
      exact jm_iret (Lf := wtL D g A c) ok fin hs d_Gr_groupOf_23
    · replace hs := oq_neg c5 hs
      refine jr_aload_n ok 0 d_Gr_groupOf_13 rfl rfl ?_
      refine jr_get (v := .ref (g 15)) ok 15 f_Gr_18 rfl rfl d_Gr_groupOf_14 ?_
      refine jr_iload_n ok 1 d_Gr_groupOf_17 rfl rfl ?_
      obtain ⟨hb6, hs⟩ := oq_if hs
      refine jr_iald ok 18 rfl rfl hb6.1 hb6.2 d_Gr_groupOf_18 ?_
      refine jr_goto 23 ok d_Gr_groupOf_19 (by decide) ?_
      exact jm_iret (Lf := wtL D g A c) ok fin hs d_Gr_groupOf_23

def q_LR_insert_28 (c : CW) : Nat → Int → Int → Int → Int → Int → WS → Option (Unit × WS)
  | 0, _, _, _, _, _, _ => none
  | n + 1, v1, v2, v3, v4, v5, S => if w32 v5 ≤ w32 v1 then if (0 : Int) ≤ v1 ∧ v1 < (6 : Int) then if (0 : Int) ≤ v1 ∧ v1 < (6 : Int) then if (0 : Int) ≤ v1 ∧ v1 < (6 : Int) then some ((), WS.w_lr_labels (WS.w_lr_valueEnd (WS.w_lr_signAt (WS.w_lr_nameAt S (aU S.lr_nameAt v1 v2)) (aU S.lr_signAt v1 v3)) (aU S.lr_valueEnd v1 v4)) (S.lr_labels + 1)) else none else none else none else if (0 : Int) ≤ (v5 - 1) ∧ (v5 - 1) < (6 : Int) then if (0 : Int) ≤ v5 ∧ v5 < (6 : Int) then if (0 : Int) ≤ (v5 - 1) ∧ (v5 - 1) < (6 : Int) then if (0 : Int) ≤ v5 ∧ v5 < (6 : Int) then if (0 : Int) ≤ (v5 - 1) ∧ (v5 - 1) < (6 : Int) then if (0 : Int) ≤ v5 ∧ v5 < (6 : Int) then (q_LR_insert_28 c n) v1 v2 v3 v4 (v5 + (-1)) (WS.w_lr_valueEnd (WS.w_lr_signAt (WS.w_lr_nameAt S (aU S.lr_nameAt v5 (S.lr_nameAt (v5 - 1)))) (aU S.lr_signAt v5 (S.lr_signAt (v5 - 1)))) (aU S.lr_valueEnd v5 (S.lr_valueEnd (v5 - 1)))) else none else none else none else none else none else none

def s_LR_insert (c : CW) (S : WS) (v1 : Int) (v2 : Int) (v3 : Int) (v4 : Int) : Option (Unit × WS) := if w32 v1 < 0 then some ((), S) else if w32 S.lr_labels < w32 v1 then some ((), S) else if w32 S.lr_labels < 6 then q_LR_insert_28 c fU v1 v2 v3 v4 S.lr_labels S else some ((), S)
set_option maxHeartbeats 4000000 in
set_option maxRecDepth 100000 in
theorem r_LR_insert (l : Launch) (D : jd_T) (g : Nat → Nat) (A : AW) (c : CW) (S : WS) (v1 : Int) (v2 : Int) (v3 : Int) (v4 : Int) (r : Unit) (S9 : WS)  (hs : s_LR_insert c S v1 v2 v3 v4 = some (r, S9)) : jc_C l D y_LR_insert b_LR_insert 6 none { frames := 0, cells := 0, slots := 0, locals := 0 } [.ref (g 4), .int (ii v1), .int (ii v2), .int (ii v3), .int (ii v4)] (wtL D g A c S) (fun _ : Unit => (.returned (none), True, wtL D g A c S9)) := by
  refine jc_of rfl (Nat.le_of_ble_eq_true rfl) ?_
  intro X hl hR hN ok hnm fin
  subst hl
  have B_28 : ∀ (n28 : Nat), ∀ (v1 : Int) (v2 : Int) (v3 : Int) (v4 : Int) (v5 : Int) (S : WS), q_LR_insert_28 c n28 v1 v2 v3 v4 v5 S = some (r, S9) → jw X 0 0 (wtL D g A c S) [(0, .ref (g 4)), (1, .int (ii v1)), (2, .int (ii v2)), (3, .int (ii v3)), (4, .int (ii v4)), (5, .int (ii v5))] 28 [] := by
    intro n28
    induction n28 with
    | zero =>
      intro v1 v2 v3 v4 v5 S hs
      rw [q_LR_insert_28] at hs; cases hs
    | succ n28 ih28 =>
      intro v1 v2 v3 v4 v5 S hs
      rw [q_LR_insert_28] at hs
      refine jr_iload ok 5 d_LR_insert_28 rfl ?_
      refine jr_iload_n ok 1 d_LR_insert_30 rfl rfl ?_
      refine jr_wicmp_le 88 ok rfl rfl d_LR_insert_31 (by decide) (fun c14 => ?_) (fun c14 => ?_)
      · replace hs := oq_pos c14 hs
        refine jr_aload_n ok 0 d_LR_insert_88 rfl rfl ?_
        refine jr_get (v := .ref (g 5)) ok 6 f_LR_9 rfl rfl d_LR_insert_89 ?_
        refine jr_iload_n ok 1 d_LR_insert_92 rfl rfl ?_
        refine jr_iload_n ok 2 d_LR_insert_93 rfl rfl ?_
        obtain ⟨hb15, hs⟩ := oq_if hs
        refine jr_iast (wtL D g A c (WS.w_lr_nameAt S (aU S.lr_nameAt v1 v2))) ok 7 rfl rfl hb15.1 hb15.2  rfl d_LR_insert_94 ?_
        refine jr_aload_n ok 0 d_LR_insert_95 rfl rfl ?_
        refine jr_get (v := .ref (g 6)) ok 6 f_LR_15 rfl rfl d_LR_insert_96 ?_
        refine jr_iload_n ok 1 d_LR_insert_99 rfl rfl ?_
        refine jr_iload_n ok 3 d_LR_insert_100 rfl rfl ?_
        obtain ⟨hb16, hs⟩ := oq_if hs
        refine jr_iast (wtL D g A c (WS.w_lr_signAt (WS.w_lr_nameAt S (aU S.lr_nameAt v1 v2)) (aU S.lr_signAt v1 v3))) ok 8 rfl rfl hb16.1 hb16.2  rfl d_LR_insert_101 ?_
        refine jr_aload_n ok 0 d_LR_insert_102 rfl rfl ?_
        refine jr_get (v := .ref (g 7)) ok 6 f_LR_18 rfl rfl d_LR_insert_103 ?_
        refine jr_iload_n ok 1 d_LR_insert_106 rfl rfl ?_
        refine jr_iload ok 4 d_LR_insert_107 rfl ?_
        obtain ⟨hb17, hs⟩ := oq_if hs
        refine jr_iast (wtL D g A c (WS.w_lr_valueEnd (WS.w_lr_signAt (WS.w_lr_nameAt S (aU S.lr_nameAt v1 v2)) (aU S.lr_signAt v1 v3)) (aU S.lr_valueEnd v1 v4))) ok 9 rfl rfl hb17.1 hb17.2  rfl d_LR_insert_109 ?_
        refine jr_aload_n ok 0 d_LR_insert_110 rfl rfl ?_
        refine jr_dup rfl ok d_LR_insert_111 ?_
        refine jr_get (v := .int (ii S.lr_labels)) ok 6 f_LR_35 rfl rfl d_LR_insert_112 ?_
        refine jr_iconst ok d_LR_insert_115 ?_
        refine jr_iadd ok d_LR_insert_116 ?_
        refine jr_put (wtL D g A c (WS.w_lr_labels (WS.w_lr_valueEnd (WS.w_lr_signAt (WS.w_lr_nameAt S (aU S.lr_nameAt v1 v2)) (aU S.lr_signAt v1 v3)) (aU S.lr_valueEnd v1 v4)) (S.lr_labels + 1))) ok 6 f_LR_35 rfl rfl rfl (Nat.le_of_ble_eq_true rfl) rfl d_LR_insert_117 ?_
        exact jm_vret (Lf := wtL D g A c) ok fin hs d_LR_insert_120
      · replace hs := oq_neg c14 hs
        refine jr_aload_n ok 0 d_LR_insert_34 rfl rfl ?_
        refine jr_get (v := .ref (g 5)) ok 6 f_LR_9 rfl rfl d_LR_insert_35 ?_
        refine jr_iload ok 5 d_LR_insert_38 rfl ?_
        refine jr_aload_n ok 0 d_LR_insert_40 rfl rfl ?_
        refine jr_get (v := .ref (g 5)) ok 6 f_LR_9 rfl rfl d_LR_insert_41 ?_
        refine jr_iload ok 5 d_LR_insert_44 rfl ?_
        refine jr_iconst ok d_LR_insert_46 ?_
        refine jr_isub ok d_LR_insert_47 ?_
        obtain ⟨hb18, hs⟩ := oq_if hs
        refine jr_iald ok 7 rfl rfl hb18.1 hb18.2 d_LR_insert_48 ?_
        obtain ⟨hb19, hs⟩ := oq_if hs
        refine jr_iast (wtL D g A c (WS.w_lr_nameAt S (aU S.lr_nameAt v5 (S.lr_nameAt (v5 - 1))))) ok 7 rfl rfl hb19.1 hb19.2  rfl d_LR_insert_49 ?_
        refine jr_aload_n ok 0 d_LR_insert_50 rfl rfl ?_
        refine jr_get (v := .ref (g 6)) ok 6 f_LR_15 rfl rfl d_LR_insert_51 ?_
        refine jr_iload ok 5 d_LR_insert_54 rfl ?_
        refine jr_aload_n ok 0 d_LR_insert_56 rfl rfl ?_
        refine jr_get (v := .ref (g 6)) ok 6 f_LR_15 rfl rfl d_LR_insert_57 ?_
        refine jr_iload ok 5 d_LR_insert_60 rfl ?_
        refine jr_iconst ok d_LR_insert_62 ?_
        refine jr_isub ok d_LR_insert_63 ?_
        obtain ⟨hb20, hs⟩ := oq_if hs
        refine jr_iald ok 8 rfl rfl hb20.1 hb20.2 d_LR_insert_64 ?_
        show jw X 0 0 (wtL D g A c (WS.w_lr_nameAt S (aU S.lr_nameAt v5 (S.lr_nameAt (v5 - 1))))) [(0, .ref (g 4)), (1, .int (ii v1)), (2, .int (ii v2)), (3, .int (ii v3)), (4, .int (ii v4)), (5, .int (ii v5))] 65 [.int (ii (S.lr_signAt (v5 - 1))), .int (ii v5), .ref (g 6)]
        obtain ⟨hb21, hs⟩ := oq_if hs
        refine jr_iast (wtL D g A c (WS.w_lr_signAt (WS.w_lr_nameAt S (aU S.lr_nameAt v5 (S.lr_nameAt (v5 - 1)))) (aU S.lr_signAt v5 (S.lr_signAt (v5 - 1))))) ok 8 rfl rfl hb21.1 hb21.2  rfl d_LR_insert_65 ?_
        refine jr_aload_n ok 0 d_LR_insert_66 rfl rfl ?_
        refine jr_get (v := .ref (g 7)) ok 6 f_LR_18 rfl rfl d_LR_insert_67 ?_
        refine jr_iload ok 5 d_LR_insert_70 rfl ?_
        refine jr_aload_n ok 0 d_LR_insert_72 rfl rfl ?_
        refine jr_get (v := .ref (g 7)) ok 6 f_LR_18 rfl rfl d_LR_insert_73 ?_
        refine jr_iload ok 5 d_LR_insert_76 rfl ?_
        refine jr_iconst ok d_LR_insert_78 ?_
        refine jr_isub ok d_LR_insert_79 ?_
        obtain ⟨hb22, hs⟩ := oq_if hs
        refine jr_iald ok 9 rfl rfl hb22.1 hb22.2 d_LR_insert_80 ?_
        show jw X 0 0 (wtL D g A c (WS.w_lr_signAt (WS.w_lr_nameAt S (aU S.lr_nameAt v5 (S.lr_nameAt (v5 - 1)))) (aU S.lr_signAt v5 (S.lr_signAt (v5 - 1))))) [(0, .ref (g 4)), (1, .int (ii v1)), (2, .int (ii v2)), (3, .int (ii v3)), (4, .int (ii v4)), (5, .int (ii v5))] 81 [.int (ii (S.lr_valueEnd (v5 - 1))), .int (ii v5), .ref (g 7)]
        obtain ⟨hb23, hs⟩ := oq_if hs
        refine jr_iast (wtL D g A c (WS.w_lr_valueEnd (WS.w_lr_signAt (WS.w_lr_nameAt S (aU S.lr_nameAt v5 (S.lr_nameAt (v5 - 1)))) (aU S.lr_signAt v5 (S.lr_signAt (v5 - 1)))) (aU S.lr_valueEnd v5 (S.lr_valueEnd (v5 - 1))))) ok 9 rfl rfl hb23.1 hb23.2  rfl d_LR_insert_81 ?_
        refine jr_iinc [(5, .int (ii (v5 + (-1)))), (0, .ref (g 4)), (1, .int (ii v1)), (2, .int (ii v2)), (3, .int (ii v3)), (4, .int (ii v4))] 5 ok d_LR_insert_82 rfl (by rw [hN]; decide) rfl ?_
        refine jr_goto 28 ok d_LR_insert_85 (by decide) ?_
        exact jr_lv [1, 2, 3, 4, 5, 0] rfl (ih28 v1 v2 v3 v4 (v5 + (-1)) (WS.w_lr_valueEnd (WS.w_lr_signAt (WS.w_lr_nameAt S (aU S.lr_nameAt v5 (S.lr_nameAt (v5 - 1)))) (aU S.lr_signAt v5 (S.lr_signAt (v5 - 1)))) (aU S.lr_valueEnd v5 (S.lr_valueEnd (v5 - 1)))) hs)
  show jw X 0 0 (wtL D g A c S) [(0, .ref (g 4)), (1, .int (ii v1)), (2, .int (ii v2)), (3, .int (ii v3)), (4, .int (ii v4))] 0 []
  rw [s_LR_insert] at hs
  refine jr_iload_n ok 1 d_LR_insert_0 rfl rfl ?_
  refine jr_wif_lt 21 ok rfl d_LR_insert_1 (by decide) (fun c24 => ?_) (fun c24 => ?_)
  · replace hs := oq_pos c24 hs
    exact jm_vret (Lf := wtL D g A c) ok fin hs d_LR_insert_21
  · replace hs := oq_neg c24 hs
    refine jr_iload_n ok 1 d_LR_insert_4 rfl rfl ?_
    refine jr_aload_n ok 0 d_LR_insert_5 rfl rfl ?_
    refine jr_get (v := .int (ii S.lr_labels)) ok 6 f_LR_35 rfl rfl d_LR_insert_6 ?_
    refine jr_wicmp_gt 21 ok rfl rfl d_LR_insert_9 (by decide) (fun c25 => ?_) (fun c25 => ?_)
    · replace hs := oq_pos c25 hs
      exact jm_vret (Lf := wtL D g A c) ok fin hs d_LR_insert_21
    · replace hs := oq_neg c25 hs
      refine jr_aload_n ok 0 d_LR_insert_12 rfl rfl ?_
      refine jr_get (v := .int (ii S.lr_labels)) ok 6 f_LR_35 rfl rfl d_LR_insert_13 ?_
      refine jr_bipush ok d_LR_insert_16 (by decide +kernel) ?_
      refine jr_wicmp_lt 22 ok rfl (show w32 6 = 6 by decide) d_LR_insert_18 (by decide) (fun c26 => ?_) (fun c26 => ?_)
      · replace hs := oq_pos c26 hs
        refine jr_aload_n ok 0 d_LR_insert_22 rfl rfl ?_
        refine jr_get (v := .int (ii S.lr_labels)) ok 6 f_LR_35 rfl rfl d_LR_insert_23 ?_
        refine jr_istore [(5, .int (ii S.lr_labels)), (0, .ref (g 4)), (1, .int (ii v1)), (2, .int (ii v2)), (3, .int (ii v3)), (4, .int (ii v4))] ok d_LR_insert_26 (by rw [hN]; decide) rfl ?_
        exact jr_lv [1, 2, 3, 4, 5, 0] rfl (B_28 fU v1 v2 v3 v4 S.lr_labels S hs)
      · replace hs := oq_neg c26 hs
        exact jm_vret (Lf := wtL D g A c) ok fin hs d_LR_insert_21

def s_Tp_size (c : CW) (S : WS)  : Option (Int × WS) := some (S.tp_size, S)
set_option maxHeartbeats 4000000 in
set_option maxRecDepth 100000 in
theorem r_Tp_size (l : Launch) (D : jd_T) (g : Nat → Nat) (A : AW) (c : CW) (S : WS)  (r : Int) (S9 : WS)  (hs : s_Tp_size c S  = some (r, S9)) : jc_C l D y_Tp_size b_Tp_size 1 (some .int) { frames := 0, cells := 0, slots := 0, locals := 0 } [.ref (g 1)] (wtL D g A c S) (fun _ : Unit => (.returned (some (.int (ii r))), True, wtL D g A c S9)) := by
  refine jc_of rfl (Nat.le_of_ble_eq_true rfl) ?_
  intro X hl hR hN ok hnm fin
  subst hl
  show jw X 0 0 (wtL D g A c S) [(0, .ref (g 1))] 0 []
  rw [s_Tp_size] at hs
  refine jr_aload_n ok 0 d_Tp_size_0 rfl rfl ?_
  refine jr_get (v := .int (ii S.tp_size)) ok 1 f_Tp_15 rfl rfl d_Tp_size_1 ?_
  exact jm_iret (Lf := wtL D g A c) ok fin hs d_Tp_size_4

def s_Lx_number (c : CW) (S : WS)  : Option (Int64 × WS) := some (S.lx_number, S)
set_option maxHeartbeats 4000000 in
set_option maxRecDepth 100000 in
theorem r_Lx_number (l : Launch) (D : jd_T) (g : Nat → Nat) (A : AW) (c : CW) (S : WS)  (r : Int64) (S9 : WS)  (hs : s_Lx_number c S  = some (r, S9)) : jc_C l D y_Lx_number b_Lx_number 1 (some .long) { frames := 0, cells := 0, slots := 0, locals := 0 } [.ref (g 11)] (wtL D g A c S) (fun _ : Unit => (.returned (some (.long r)), True, wtL D g A c S9)) := by
  refine jc_of rfl (Nat.le_of_ble_eq_true rfl) ?_
  intro X hl hR hN ok hnm fin
  subst hl
  show jw X 0 0 (wtL D g A c S) [(0, .ref (g 11))] 0 []
  rw [s_Lx_number] at hs
  refine jr_aload_n ok 0 d_Lx_number_0 rfl rfl ?_
  refine jr_get (v := .long S.lx_number) ok 14 f_Lx_25 rfl rfl d_Lx_number_1 ?_
  exact jm_lret (Lf := wtL D g A c) ok fin hs d_Lx_number_4

def s_Pg_clear (c : CW) (S : WS)  : Option (Unit × WS) := some ((), WS.w_pg_size S 0)
set_option maxHeartbeats 4000000 in
set_option maxRecDepth 100000 in
theorem r_Pg_clear (l : Launch) (D : jd_T) (g : Nat → Nat) (A : AW) (c : CW) (S : WS)  (r : Unit) (S9 : WS)  (hs : s_Pg_clear c S  = some (r, S9)) : jc_C l D y_Pg_clear b_Pg_clear 1 none { frames := 0, cells := 0, slots := 0, locals := 0 } [.ref (g 9)] (wtL D g A c S) (fun _ : Unit => (.returned (none), True, wtL D g A c S9)) := by
  refine jc_of rfl (Nat.le_of_ble_eq_true rfl) ?_
  intro X hl hR hN ok hnm fin
  subst hl
  show jw X 0 0 (wtL D g A c S) [(0, .ref (g 9))] 0 []
  rw [s_Pg_clear] at hs
  refine jr_aload_n ok 0 d_Pg_clear_0 rfl rfl ?_
  refine jr_iconst ok d_Pg_clear_1 ?_
  refine jr_put (wtL D g A c (WS.w_pg_size S 0)) ok 11 f_Pg_15 rfl rfl rfl (Nat.le_of_ble_eq_true rfl) rfl d_Pg_clear_2 ?_
  exact jm_vret (Lf := wtL D g A c) ok fin hs d_Pg_clear_5

def q_QR_isSumSign_12  : Option (Int) := some 1

def s_QR_isSumSign (v0 : Int) : Option (Int) := if w32 v0 = 43 then q_QR_isSumSign_12  else if w32 v0 = 45 then q_QR_isSumSign_12  else some 0
set_option maxHeartbeats 4000000 in
set_option maxRecDepth 100000 in
theorem r_QR_isSumSign (l : Launch) (D : jd_T) (v0 : Int) (r : Int) (hs : s_QR_isSumSign v0 = some r) : jc_C l D y_QR_isSumSign b_QR_isSumSign 1 (some .boolean) { frames := 0, cells := 0, slots := 0, locals := 0 } [.int (ii v0)] [] (fun _ : Unit => (.returned (some (.int (ii r))), True, [])) := by
  refine jc_of rfl (Nat.le_of_ble_eq_true rfl) ?_
  intro X hl hR hN ok hnm fin
  subst hl
  have B_12 : q_QR_isSumSign_12  = some r → jw X 0 0 [] [] 12 [] := by
    intro hs
    rw [q_QR_isSumSign_12] at hs
    refine jr_iconst ok d_QR_isSumSign_12 ?_
    refine jr_goto 17 ok d_QR_isSumSign_13 (by decide) ?_
    exact jm_zrets ok (by decide +kernel) fin hs d_QR_isSumSign_17
  show jw X 0 0 [] [(0, .int (ii v0))] 0 []
  rw [s_QR_isSumSign] at hs
  refine jr_iload_n ok 0 d_QR_isSumSign_0 rfl rfl ?_
  refine jr_bipush ok d_QR_isSumSign_1 (by decide +kernel) ?_
  refine jr_wicmp_eq 12 ok rfl (show w32 43 = 43 by decide) d_QR_isSumSign_3 (by decide) (fun c3 => ?_) (fun c3 => ?_)
  · replace hs := oq_pos c3 hs
    exact jr_lv [] rfl (B_12 hs)
  · replace hs := oq_neg c3 hs
    refine jr_iload_n ok 0 d_QR_isSumSign_6 rfl rfl ?_
    refine jr_bipush ok d_QR_isSumSign_7 (by decide +kernel) ?_
    refine jr_wicmp_ne 16 ok rfl (show w32 45 = 45 by decide) d_QR_isSumSign_9 (by decide) (fun c4 => ?_) (fun c4 => ?_)
    · replace hs := oq_neg c4 hs
      refine jr_iconst ok d_QR_isSumSign_16 ?_
      exact jm_zrets ok (by decide +kernel) fin hs d_QR_isSumSign_17
    · replace hs := oq_pos c4 hs
      exact jr_lv [] rfl (B_12 hs)

def s_Se_points (c : CW) (S : WS) (v0 : Nat) : Option (Nat × WS) := some (v0, S)
set_option maxHeartbeats 4000000 in
set_option maxRecDepth 100000 in
theorem r_Se_points (l : Launch) (D : jd_T) (g : Nat → Nat) (A : AW) (c : CW) (S : WS) (v0 : Nat) (r : Nat) (S9 : WS) (hv0 : v0 < c.N) (hs : s_Se_points c S v0 = some (r, S9)) : jc_C l D y_Se_points b_Se_points 1 (some (.object "WindowTables$Points")) { frames := 0, cells := 0, slots := 0, locals := 0 } [.ref (A.us v0 0)] (wtL D g A c S) (fun _ : Unit => (.returned (some (.ref (A.us r 5))), True, wtL D g A c S9)) := by
  refine jc_of rfl (Nat.le_of_ble_eq_true rfl) ?_
  intro X hl hR hN ok hnm fin
  subst hl
  show jw X 0 0 (wtL D g A c S) [(0, .ref (A.us v0 0))] 0 []
  rw [s_Se_points] at hs
  refine jr_aload_n ok 0 d_Se_points_0 rfl rfl ?_
  refine jq_get (v := .ref (A.us v0 5)) ok f_Se_12 (sg_atp (F := serW D A c S) 5 rfl hv0 0 rfl) rfl d_Se_points_1 ?_
  exact jm_aret (f := fun z => (A.us z 5)) (Lg := wtL D g A c) ok fin hs d_Se_points_4

def s_St_headSize (c : CW) (S : WS)  : Option (Int × WS) := some (S.st_headSize, S)
set_option maxHeartbeats 4000000 in
set_option maxRecDepth 100000 in
theorem r_St_headSize (l : Launch) (D : jd_T) (g : Nat → Nat) (A : AW) (c : CW) (S : WS)  (r : Int) (S9 : WS)  (hs : s_St_headSize c S  = some (r, S9)) : jc_C l D y_St_headSize b_St_headSize 1 (some .int) { frames := 0, cells := 0, slots := 0, locals := 0 } [.ref (g 2)] (wtL D g A c S) (fun _ : Unit => (.returned (some (.int (ii r))), True, wtL D g A c S9)) := by
  refine jc_of rfl (Nat.le_of_ble_eq_true rfl) ?_
  intro X hl hR hN ok hnm fin
  subst hl
  show jw X 0 0 (wtL D g A c S) [(0, .ref (g 2))] 0 []
  rw [s_St_headSize] at hs
  refine jr_aload_n ok 0 d_St_headSize_0 rfl rfl ?_
  refine jr_get (v := .int (ii S.st_headSize)) ok 3 f_St_37 rfl rfl d_St_headSize_1 ?_
  exact jm_iret (Lf := wtL D g A c) ok fin hs d_St_headSize_4

def s_St_headIsFull (c : CW) (S : WS)  : Option (Int × WS) := if w32 S.st_headSize < 4096 then some (0, S) else some (1, S)
set_option maxHeartbeats 4000000 in
set_option maxRecDepth 100000 in
theorem r_St_headIsFull (l : Launch) (D : jd_T) (g : Nat → Nat) (A : AW) (c : CW) (S : WS)  (r : Int) (S9 : WS)  (hs : s_St_headIsFull c S  = some (r, S9)) : jc_C l D y_St_headIsFull b_St_headIsFull 1 (some .boolean) { frames := 0, cells := 0, slots := 0, locals := 0 } [.ref (g 2)] (wtL D g A c S) (fun _ : Unit => (.returned (some (.int (ii r))), True, wtL D g A c S9)) := by
  refine jc_of rfl (Nat.le_of_ble_eq_true rfl) ?_
  intro X hl hR hN ok hnm fin
  subst hl
  show jw X 0 0 (wtL D g A c S) [(0, .ref (g 2))] 0 []
  rw [s_St_headIsFull] at hs
  refine jr_aload_n ok 0 d_St_headIsFull_0 rfl rfl ?_
  refine jr_get (v := .int (ii S.st_headSize)) ok 3 f_St_37 rfl rfl d_St_headIsFull_1 ?_
  refine jr_sipush ok d_St_headIsFull_4 (by decide +kernel) ?_
  refine jr_wicmp_lt 14 ok rfl (show w32 4096 = 4096 by decide) d_St_headIsFull_7 (by decide) (fun c2 => ?_) (fun c2 => ?_)
  · replace hs := oq_pos c2 hs
    refine jr_iconst ok d_St_headIsFull_14 ?_
    exact jm_zret (Lf := wtL D g A c) ok (by decide +kernel) fin hs d_St_headIsFull_15
  · replace hs := oq_neg c2 hs
    refine jr_iconst ok d_St_headIsFull_10 ?_
    refine jr_goto 15 ok d_St_headIsFull_11 (by decide) ?_
    exact jm_zret (Lf := wtL D g A c) ok (by decide +kernel) fin hs d_St_headIsFull_15

def s_Gd_lines (c : CW) (S : WS) (v0 : Nat) : Option (Int × WS) := some (S.gd_lines v0, S)
set_option maxHeartbeats 4000000 in
set_option maxRecDepth 100000 in
theorem r_Gd_lines (l : Launch) (D : jd_T) (g : Nat → Nat) (A : AW) (c : CW) (S : WS) (v0 : Nat) (r : Int) (S9 : WS) (hv0 : v0 < 19) (hs : s_Gd_lines c S v0 = some (r, S9)) : jc_C l D y_Gd_lines b_Gd_lines 1 (some .int) { frames := 0, cells := 0, slots := 0, locals := 0 } [.ref (g (19 + v0))] (wtL D g A c S) (fun _ : Unit => (.returned (some (.int (ii r))), True, wtL D g A c S9)) := by
  refine jc_of rfl (Nat.le_of_ble_eq_true rfl) ?_
  intro X hl hR hN ok hnm fin
  subst hl
  show jw X 0 0 (wtL D g A c S) [(0, .ref (g (19 + v0)))] 0 []
  rw [s_Gd_lines] at hs
  refine jr_aload_n ok 0 d_Gd_lines_0 rfl rfl ?_
  refine jq_get (v := .int (ii (S.gd_lines v0))) ok f_Gd_19 (sg_atp (F := grdW D g A c S) 23 rfl hv0 0 rfl) rfl d_Gd_lines_1 ?_
  exact jm_iret (Lf := wtL D g A c) ok fin hs d_Gd_lines_4

def s_Pg_get (c : CW) (S : WS) (v1 : Int) : Option (Int × WS) := if w32 v1 < 0 then some (0, S) else if w32 S.pg_size ≤ w32 v1 then some (0, S) else if (0 : Int) ≤ v1 ∧ v1 < (c.oc : Int) then some (S.pg_orders v1, S) else none
set_option maxHeartbeats 4000000 in
set_option maxRecDepth 100000 in
theorem r_Pg_get (l : Launch) (D : jd_T) (g : Nat → Nat) (A : AW) (c : CW) (S : WS) (v1 : Int) (r : Int) (S9 : WS)  (hs : s_Pg_get c S v1 = some (r, S9)) : jc_C l D y_Pg_get b_Pg_get 2 (some .int) { frames := 0, cells := 0, slots := 0, locals := 0 } [.ref (g 9), .int (ii v1)] (wtL D g A c S) (fun _ : Unit => (.returned (some (.int (ii r))), True, wtL D g A c S9)) := by
  refine jc_of rfl (Nat.le_of_ble_eq_true rfl) ?_
  intro X hl hR hN ok hnm fin
  subst hl
  show jw X 0 0 (wtL D g A c S) [(0, .ref (g 9)), (1, .int (ii v1))] 0 []
  rw [s_Pg_get] at hs
  refine jr_iload_n ok 1 d_Pg_get_0 rfl rfl ?_
  refine jr_wif_lt 21 ok rfl d_Pg_get_1 (by decide) (fun c4 => ?_) (fun c4 => ?_)
  · replace hs := oq_pos c4 hs
    refine jr_iconst ok d_Pg_get_21 ?_
    exact jm_iret (Lf := wtL D g A c) ok fin hs d_Pg_get_22
  · replace hs := oq_neg c4 hs
    refine jr_iload_n ok 1 d_Pg_get_4 rfl rfl ?_
    refine jr_aload_n ok 0 d_Pg_get_5 rfl rfl ?_
    refine jr_get (v := .int (ii S.pg_size)) ok 11 f_Pg_15 rfl rfl d_Pg_get_6 ?_
    refine jr_wicmp_ge 21 ok rfl rfl d_Pg_get_9 (by decide) (fun c5 => ?_) (fun c5 => ?_)
    · replace hs := oq_pos c5 hs
      refine jr_iconst ok d_Pg_get_21 ?_
      exact jm_iret (Lf := wtL D g A c) ok fin hs d_Pg_get_22
    · replace hs := oq_neg c5 hs
      refine jr_aload_n ok 0 d_Pg_get_12 rfl rfl ?_
      refine jr_get (v := .ref A.oa) ok 11 f_Pg_9 rfl rfl d_Pg_get_13 ?_
      refine jr_iload_n ok 1 d_Pg_get_16 rfl rfl ?_
      obtain ⟨hb6, hs⟩ := oq_if hs
      refine jr_iald ok 12 rfl rfl hb6.1 hb6.2 d_Pg_get_17 ?_
      refine jr_goto 22 ok d_Pg_get_18 (by decide) ?_
      exact jm_iret (Lf := wtL D g A c) ok fin hs d_Pg_get_22

def s_Gr_nameCount (c : CW) (S : WS)  : Option (Int × WS) := some (S.gr_nameCount, S)
set_option maxHeartbeats 4000000 in
set_option maxRecDepth 100000 in
theorem r_Gr_nameCount (l : Launch) (D : jd_T) (g : Nat → Nat) (A : AW) (c : CW) (S : WS)  (r : Int) (S9 : WS)  (hs : s_Gr_nameCount c S  = some (r, S9)) : jc_C l D y_Gr_nameCount b_Gr_nameCount 1 (some .int) { frames := 0, cells := 0, slots := 0, locals := 0 } [.ref (g 12)] (wtL D g A c S) (fun _ : Unit => (.returned (some (.int (ii r))), True, wtL D g A c S9)) := by
  refine jc_of rfl (Nat.le_of_ble_eq_true rfl) ?_
  intro X hl hR hN ok hnm fin
  subst hl
  show jw X 0 0 (wtL D g A c S) [(0, .ref (g 12))] 0 []
  rw [s_Gr_nameCount] at hs
  refine jr_aload_n ok 0 d_Gr_nameCount_0 rfl rfl ?_
  refine jr_get (v := .int (ii S.gr_nameCount)) ok 15 f_Gr_36 rfl rfl d_Gr_nameCount_1 ?_
  exact jm_iret (Lf := wtL D g A c) ok fin hs d_Gr_nameCount_4

def s_Gr_size (c : CW) (S : WS)  : Option (Int × WS) := some (S.gr_size, S)
set_option maxHeartbeats 4000000 in
set_option maxRecDepth 100000 in
theorem r_Gr_size (l : Launch) (D : jd_T) (g : Nat → Nat) (A : AW) (c : CW) (S : WS)  (r : Int) (S9 : WS)  (hs : s_Gr_size c S  = some (r, S9)) : jc_C l D y_Gr_size b_Gr_size 1 (some .int) { frames := 0, cells := 0, slots := 0, locals := 0 } [.ref (g 12)] (wtL D g A c S) (fun _ : Unit => (.returned (some (.int (ii r))), True, wtL D g A c S9)) := by
  refine jc_of rfl (Nat.le_of_ble_eq_true rfl) ?_
  intro X hl hR hN ok hnm fin
  subst hl
  show jw X 0 0 (wtL D g A c S) [(0, .ref (g 12))] 0 []
  rw [s_Gr_size] at hs
  refine jr_aload_n ok 0 d_Gr_size_0 rfl rfl ?_
  refine jr_get (v := .int (ii S.gr_size)) ok 15 f_Gr_40 rfl rfl d_Gr_size_1 ?_
  exact jm_iret (Lf := wtL D g A c) ok fin hs d_Gr_size_4

def s_LR_addLetter (c : CW) (S : WS) (v1 : Int) : Option (Unit × WS) := if 300 ≤ w32 S.lr_length then some ((), S) else if (0 : Int) ≤ S.lr_length ∧ S.lr_length < (300 : Int) then some ((), WS.w_lr_length (WS.w_lr_letters S (aU S.lr_letters S.lr_length (sb v1))) (S.lr_length + 1)) else none
set_option maxHeartbeats 4000000 in
set_option maxRecDepth 100000 in
theorem r_LR_addLetter (l : Launch) (D : jd_T) (g : Nat → Nat) (A : AW) (c : CW) (S : WS) (v1 : Int) (r : Unit) (S9 : WS)  (hs : s_LR_addLetter c S v1 = some (r, S9)) : jc_C l D y_LR_addLetter b_LR_addLetter 2 none { frames := 0, cells := 0, slots := 0, locals := 0 } [.ref (g 4), .int (ii v1)] (wtL D g A c S) (fun _ : Unit => (.returned (none), True, wtL D g A c S9)) := by
  refine jc_of rfl (Nat.le_of_ble_eq_true rfl) ?_
  intro X hl hR hN ok hnm fin
  subst hl
  show jw X 0 0 (wtL D g A c S) [(0, .ref (g 4)), (1, .int (ii v1))] 0 []
  rw [s_LR_addLetter] at hs
  refine jr_aload_n ok 0 d_LR_addLetter_0 rfl rfl ?_
  refine jr_get (v := .int (ii S.lr_length)) ok 6 f_LR_32 rfl rfl d_LR_addLetter_1 ?_
  refine jr_aload_n ok 0 d_LR_addLetter_4 rfl rfl ?_
  refine jr_get (v := .ref (g 8)) ok 6 f_LR_21 rfl rfl d_LR_addLetter_5 ?_
  refine jr_alen_i ok 10 rfl rfl d_LR_addLetter_8 ?_
  refine jr_wicmp_ge 33 ok rfl (show w32 300 = 300 by decide) d_LR_addLetter_9 (by decide) (fun c3 => ?_) (fun c3 => ?_)
  · replace hs := oq_pos c3 hs
    exact jm_vret (Lf := wtL D g A c) ok fin hs d_LR_addLetter_33
  · replace hs := oq_neg c3 hs
    refine jr_aload_n ok 0 d_LR_addLetter_12 rfl rfl ?_
    refine jr_get (v := .ref (g 8)) ok 6 f_LR_21 rfl rfl d_LR_addLetter_13 ?_
    refine jr_aload_n ok 0 d_LR_addLetter_16 rfl rfl ?_
    refine jr_get (v := .int (ii S.lr_length)) ok 6 f_LR_32 rfl rfl d_LR_addLetter_17 ?_
    refine jr_iload_n ok 1 d_LR_addLetter_20 rfl rfl ?_
    refine jr_i2b (z := sb v1) ok d_LR_addLetter_21 (ii_i2b _) ?_
    obtain ⟨hb4, hs⟩ := oq_if hs
    refine jr_bast (wtL D g A c (WS.w_lr_letters S (aU S.lr_letters S.lr_length (sb v1)))) ok 10 rfl rfl hb4.1 hb4.2 (nar_b (sb_R _)) rfl d_LR_addLetter_22 ?_
    refine jr_aload_n ok 0 d_LR_addLetter_23 rfl rfl ?_
    refine jr_dup rfl ok d_LR_addLetter_24 ?_
    refine jr_get (v := .int (ii S.lr_length)) ok 6 f_LR_32 rfl rfl d_LR_addLetter_25 ?_
    refine jr_iconst ok d_LR_addLetter_28 ?_
    refine jr_iadd ok d_LR_addLetter_29 ?_
    refine jr_put (wtL D g A c (WS.w_lr_length (WS.w_lr_letters S (aU S.lr_letters S.lr_length (sb v1))) (S.lr_length + 1))) ok 6 f_LR_32 rfl rfl rfl (Nat.le_of_ble_eq_true rfl) rfl d_LR_addLetter_30 ?_
    exact jm_vret (Lf := wtL D g A c) ok fin hs d_LR_addLetter_33

def s_Lx_isDigit (v0 : Int) : Option (Int) := if w32 v0 < 48 then some 0 else if 57 < w32 v0 then some 0 else some 1
set_option maxHeartbeats 4000000 in
set_option maxRecDepth 100000 in
theorem r_Lx_isDigit (l : Launch) (D : jd_T) (v0 : Int) (r : Int) (hs : s_Lx_isDigit v0 = some r) : jc_C l D y_Lx_isDigit b_Lx_isDigit 1 (some .boolean) { frames := 0, cells := 0, slots := 0, locals := 0 } [.int (ii v0)] [] (fun _ : Unit => (.returned (some (.int (ii r))), True, [])) := by
  refine jc_of rfl (Nat.le_of_ble_eq_true rfl) ?_
  intro X hl hR hN ok hnm fin
  subst hl
  show jw X 0 0 [] [(0, .int (ii v0))] 0 []
  rw [s_Lx_isDigit] at hs
  refine jr_iload_n ok 0 d_Lx_isDigit_0 rfl rfl ?_
  refine jr_bipush ok d_Lx_isDigit_1 (by decide +kernel) ?_
  refine jr_wicmp_lt 16 ok rfl (show w32 48 = 48 by decide) d_Lx_isDigit_3 (by decide) (fun c3 => ?_) (fun c3 => ?_)
  · replace hs := oq_pos c3 hs
    refine jr_iconst ok d_Lx_isDigit_16 ?_
    exact jm_zrets ok (by decide +kernel) fin hs d_Lx_isDigit_17
  · replace hs := oq_neg c3 hs
    refine jr_iload_n ok 0 d_Lx_isDigit_6 rfl rfl ?_
    refine jr_bipush ok d_Lx_isDigit_7 (by decide +kernel) ?_
    refine jr_wicmp_gt 16 ok rfl (show w32 57 = 57 by decide) d_Lx_isDigit_9 (by decide) (fun c4 => ?_) (fun c4 => ?_)
    · replace hs := oq_pos c4 hs
      refine jr_iconst ok d_Lx_isDigit_16 ?_
      exact jm_zrets ok (by decide +kernel) fin hs d_Lx_isDigit_17
    · replace hs := oq_neg c4 hs
      refine jr_iconst ok d_Lx_isDigit_12 ?_
      refine jr_goto 17 ok d_Lx_isDigit_13 (by decide) ?_
      exact jm_zrets ok (by decide +kernel) fin hs d_Lx_isDigit_17

def s_Lx_isQuotable (v0 : Int) : Option (Int) := if w32 v0 < 32 then some 0 else if 126 < w32 v0 then some 0 else if w32 v0 = 34 then some 0 else some 1
set_option maxHeartbeats 4000000 in
set_option maxRecDepth 100000 in
theorem r_Lx_isQuotable (l : Launch) (D : jd_T) (v0 : Int) (r : Int) (hs : s_Lx_isQuotable v0 = some r) : jc_C l D y_Lx_isQuotable b_Lx_isQuotable 1 (some .boolean) { frames := 0, cells := 0, slots := 0, locals := 0 } [.int (ii v0)] [] (fun _ : Unit => (.returned (some (.int (ii r))), True, [])) := by
  refine jc_of rfl (Nat.le_of_ble_eq_true rfl) ?_
  intro X hl hR hN ok hnm fin
  subst hl
  show jw X 0 0 [] [(0, .int (ii v0))] 0 []
  rw [s_Lx_isQuotable] at hs
  refine jr_iload_n ok 0 d_Lx_isQuotable_0 rfl rfl ?_
  refine jr_bipush ok d_Lx_isQuotable_1 (by decide +kernel) ?_
  refine jr_wicmp_lt 22 ok rfl (show w32 32 = 32 by decide) d_Lx_isQuotable_3 (by decide) (fun c4 => ?_) (fun c4 => ?_)
  · replace hs := oq_pos c4 hs
    refine jr_iconst ok d_Lx_isQuotable_22 ?_
    exact jm_zrets ok (by decide +kernel) fin hs d_Lx_isQuotable_23
  · replace hs := oq_neg c4 hs
    refine jr_iload_n ok 0 d_Lx_isQuotable_6 rfl rfl ?_
    refine jr_bipush ok d_Lx_isQuotable_7 (by decide +kernel) ?_
    refine jr_wicmp_gt 22 ok rfl (show w32 126 = 126 by decide) d_Lx_isQuotable_9 (by decide) (fun c5 => ?_) (fun c5 => ?_)
    · replace hs := oq_pos c5 hs
      refine jr_iconst ok d_Lx_isQuotable_22 ?_
      exact jm_zrets ok (by decide +kernel) fin hs d_Lx_isQuotable_23
    · replace hs := oq_neg c5 hs
      refine jr_iload_n ok 0 d_Lx_isQuotable_12 rfl rfl ?_
      refine jr_bipush ok d_Lx_isQuotable_13 (by decide +kernel) ?_
      refine jr_wicmp_eq 22 ok rfl (show w32 34 = 34 by decide) d_Lx_isQuotable_15 (by decide) (fun c6 => ?_) (fun c6 => ?_)
      · replace hs := oq_pos c6 hs
        refine jr_iconst ok d_Lx_isQuotable_22 ?_
        exact jm_zrets ok (by decide +kernel) fin hs d_Lx_isQuotable_23
      · replace hs := oq_neg c6 hs
        refine jr_iconst ok d_Lx_isQuotable_18 ?_
        refine jr_goto 23 ok d_Lx_isQuotable_19 (by decide) ?_
        exact jm_zrets ok (by decide +kernel) fin hs d_Lx_isQuotable_23

def s_Lx_signKind (v0 : Int) (v1 : Int) : Option (Int) := if w32 v0 = 33 then if w32 v1 = 61 then some 305 else if w32 v1 = 94 then some 307 else some 300 else if w32 v0 = 37 then some v0 else if w32 v0 = 40 then some v0 else if w32 v0 = 41 then some v0 else if w32 v0 = 42 then some v0 else if w32 v0 = 43 then some v0 else if w32 v0 = 44 then some v0 else if w32 v0 = 45 then some v0 else if w32 v0 = 47 then some v0 else if w32 v0 = 61 then some v0 else if w32 v0 = 94 then if w32 v1 = 61 then some 306 else some 300 else if w32 v0 = 123 then some v0 else if w32 v0 = 125 then some v0 else some 300
set_option maxHeartbeats 4000000 in
set_option maxRecDepth 100000 in
theorem r_Lx_signKind (l : Launch) (D : jd_T) (v0 : Int) (v1 : Int) (r : Int) (hs : s_Lx_signKind v0 v1 = some r) : jc_C l D y_Lx_signKind b_Lx_signKind 2 (some .int) { frames := 0, cells := 0, slots := 0, locals := 0 } [.int (ii v0), .int (ii v1)] [] (fun _ : Unit => (.returned (some (.int (ii r))), True, [])) := by
  refine jc_of rfl (Nat.le_of_ble_eq_true rfl) ?_
  intro X hl hR hN ok hnm fin
  subst hl
  show jw X 0 0 [] [(0, .int (ii v0)), (1, .int (ii v1))] 0 []
  rw [s_Lx_signKind] at hs
  refine jr_iload_n ok 0 d_Lx_signKind_0 rfl rfl ?_
  by_cases c17 : w32 v0 = 33
  · replace hs := oq_pos c17 hs
    refine jr_wlook (off := 133) 134 c17 ok d_Lx_signKind_1 (by decide) (by decide) (by decide) ?_
    refine jr_iload_n ok 1 d_Lx_signKind_134 rfl rfl ?_
    refine jr_bipush ok d_Lx_signKind_135 (by decide +kernel) ?_
    refine jr_wicmp_ne 146 ok rfl (show w32 61 = 61 by decide) d_Lx_signKind_137 (by decide) (fun c18 => ?_) (fun c18 => ?_)
    · replace hs := oq_neg c18 hs
      refine jr_iload_n ok 1 d_Lx_signKind_146 rfl rfl ?_
      refine jr_bipush ok d_Lx_signKind_147 (by decide +kernel) ?_
      refine jr_wicmp_ne 158 ok rfl (show w32 94 = 94 by decide) d_Lx_signKind_149 (by decide) (fun c19 => ?_) (fun c19 => ?_)
      · replace hs := oq_neg c19 hs
        refine jr_sipush ok d_Lx_signKind_158 (by decide +kernel) ?_
        exact jm_irets ok fin hs d_Lx_signKind_161
      · replace hs := oq_pos c19 hs
        refine jr_sipush ok d_Lx_signKind_152 (by decide +kernel) ?_
        refine jr_goto 161 ok d_Lx_signKind_155 (by decide) ?_
        exact jm_irets ok fin hs d_Lx_signKind_161
    · replace hs := oq_pos c18 hs
      refine jr_sipush ok d_Lx_signKind_140 (by decide +kernel) ?_
      refine jr_goto 161 ok d_Lx_signKind_143 (by decide) ?_
      exact jm_irets ok fin hs d_Lx_signKind_161
  · replace hs := oq_neg c17 hs
    by_cases c20 : w32 v0 = 37
    · replace hs := oq_pos c20 hs
      refine jr_wlook (off := 115) 116 c20 ok d_Lx_signKind_1 (by decide) (by decide) (by decide) ?_
      refine jr_iload_n ok 0 d_Lx_signKind_116 rfl rfl ?_
      exact jm_irets ok fin hs d_Lx_signKind_117
    · replace hs := oq_neg c20 hs
      by_cases c21 : w32 v0 = 40
      · replace hs := oq_pos c21 hs
        refine jr_wlook (off := 115) 116 c21 ok d_Lx_signKind_1 (by decide) (by decide) (by decide) ?_
        refine jr_iload_n ok 0 d_Lx_signKind_116 rfl rfl ?_
        exact jm_irets ok fin hs d_Lx_signKind_117
      · replace hs := oq_neg c21 hs
        by_cases c22 : w32 v0 = 41
        · replace hs := oq_pos c22 hs
          refine jr_wlook (off := 115) 116 c22 ok d_Lx_signKind_1 (by decide) (by decide) (by decide) ?_
          refine jr_iload_n ok 0 d_Lx_signKind_116 rfl rfl ?_
          exact jm_irets ok fin hs d_Lx_signKind_117
        · replace hs := oq_neg c22 hs
          by_cases c23 : w32 v0 = 42
          · replace hs := oq_pos c23 hs
            refine jr_wlook (off := 115) 116 c23 ok d_Lx_signKind_1 (by decide) (by decide) (by decide) ?_
            refine jr_iload_n ok 0 d_Lx_signKind_116 rfl rfl ?_
            exact jm_irets ok fin hs d_Lx_signKind_117
          · replace hs := oq_neg c23 hs
            by_cases c24 : w32 v0 = 43
            · replace hs := oq_pos c24 hs
              refine jr_wlook (off := 115) 116 c24 ok d_Lx_signKind_1 (by decide) (by decide) (by decide) ?_
              refine jr_iload_n ok 0 d_Lx_signKind_116 rfl rfl ?_
              exact jm_irets ok fin hs d_Lx_signKind_117
            · replace hs := oq_neg c24 hs
              by_cases c25 : w32 v0 = 44
              · replace hs := oq_pos c25 hs
                refine jr_wlook (off := 115) 116 c25 ok d_Lx_signKind_1 (by decide) (by decide) (by decide) ?_
                refine jr_iload_n ok 0 d_Lx_signKind_116 rfl rfl ?_
                exact jm_irets ok fin hs d_Lx_signKind_117
              · replace hs := oq_neg c25 hs
                by_cases c26 : w32 v0 = 45
                · replace hs := oq_pos c26 hs
                  refine jr_wlook (off := 115) 116 c26 ok d_Lx_signKind_1 (by decide) (by decide) (by decide) ?_
                  refine jr_iload_n ok 0 d_Lx_signKind_116 rfl rfl ?_
                  exact jm_irets ok fin hs d_Lx_signKind_117
                · replace hs := oq_neg c26 hs
                  by_cases c27 : w32 v0 = 47
                  · replace hs := oq_pos c27 hs
                    refine jr_wlook (off := 115) 116 c27 ok d_Lx_signKind_1 (by decide) (by decide) (by decide) ?_
                    refine jr_iload_n ok 0 d_Lx_signKind_116 rfl rfl ?_
                    exact jm_irets ok fin hs d_Lx_signKind_117
                  · replace hs := oq_neg c27 hs
                    by_cases c28 : w32 v0 = 61
                    · replace hs := oq_pos c28 hs
                      refine jr_wlook (off := 115) 116 c28 ok d_Lx_signKind_1 (by decide) (by decide) (by decide) ?_
                      refine jr_iload_n ok 0 d_Lx_signKind_116 rfl rfl ?_
                      exact jm_irets ok fin hs d_Lx_signKind_117
                    · replace hs := oq_neg c28 hs
                      by_cases c29 : w32 v0 = 94
                      · replace hs := oq_pos c29 hs
                        refine jr_wlook (off := 117) 118 c29 ok d_Lx_signKind_1 (by decide) (by decide) (by decide) ?_
                        refine jr_iload_n ok 1 d_Lx_signKind_118 rfl rfl ?_
                        refine jr_bipush ok d_Lx_signKind_119 (by decide +kernel) ?_
                        refine jr_wicmp_ne 130 ok rfl (show w32 61 = 61 by decide) d_Lx_signKind_121 (by decide) (fun c30 => ?_) (fun c30 => ?_)
                        · replace hs := oq_neg c30 hs
                          refine jr_sipush ok d_Lx_signKind_130 (by decide +kernel) ?_
                          exact jm_irets ok fin hs d_Lx_signKind_133
                        · replace hs := oq_pos c30 hs
                          refine jr_sipush ok d_Lx_signKind_124 (by decide +kernel) ?_
                          refine jr_goto 133 ok d_Lx_signKind_127 (by decide) ?_
                          exact jm_irets ok fin hs d_Lx_signKind_133
                      · replace hs := oq_neg c29 hs
                        by_cases c31 : w32 v0 = 123
                        · replace hs := oq_pos c31 hs
                          refine jr_wlook (off := 115) 116 c31 ok d_Lx_signKind_1 (by decide) (by decide) (by decide) ?_
                          refine jr_iload_n ok 0 d_Lx_signKind_116 rfl rfl ?_
                          exact jm_irets ok fin hs d_Lx_signKind_117
                        · replace hs := oq_neg c31 hs
                          by_cases c32 : w32 v0 = 125
                          · replace hs := oq_pos c32 hs
                            refine jr_wlook (off := 115) 116 c32 ok d_Lx_signKind_1 (by decide) (by decide) (by decide) ?_
                            refine jr_iload_n ok 0 d_Lx_signKind_116 rfl rfl ?_
                            exact jm_irets ok fin hs d_Lx_signKind_117
                          · replace hs := oq_neg c32 hs
                            refine jr_wlook (off := 161) 162 rfl ok d_Lx_signKind_1 (by decide) (by simp [Op.lookupswitch.offset, Ne.symm c17, Ne.symm c20, Ne.symm c21, Ne.symm c22, Ne.symm c23, Ne.symm c24, Ne.symm c25, Ne.symm c26, Ne.symm c27, Ne.symm c28, Ne.symm c29, Ne.symm c31, Ne.symm c32] <;> rfl) (by decide) ?_
                            refine jr_sipush ok d_Lx_signKind_162 (by decide +kernel) ?_
                            exact jm_irets ok fin hs d_Lx_signKind_165

def s_St_horizon (c : CW) (S : WS)  : Option (Int64 × WS) := some (S.st_horizon, S)
set_option maxHeartbeats 4000000 in
set_option maxRecDepth 100000 in
theorem r_St_horizon (l : Launch) (D : jd_T) (g : Nat → Nat) (A : AW) (c : CW) (S : WS)  (r : Int64) (S9 : WS)  (hs : s_St_horizon c S  = some (r, S9)) : jc_C l D y_St_horizon b_St_horizon 1 (some .long) { frames := 0, cells := 0, slots := 0, locals := 0 } [.ref (g 2)] (wtL D g A c S) (fun _ : Unit => (.returned (some (.long r)), True, wtL D g A c S9)) := by
  refine jc_of rfl (Nat.le_of_ble_eq_true rfl) ?_
  intro X hl hR hN ok hnm fin
  subst hl
  show jw X 0 0 (wtL D g A c S) [(0, .ref (g 2))] 0 []
  rw [s_St_horizon] at hs
  refine jr_aload_n ok 0 d_St_horizon_0 rfl rfl ?_
  refine jr_get (v := .long S.st_horizon) ok 3 f_St_33 rfl rfl d_St_horizon_1 ?_
  exact jm_lret (Lf := wtL D g A c) ok fin hs d_St_horizon_4

def s_St_addScar (c : CW) (S : WS)  : Option (Unit × WS) := some ((), WS.w_st_scars S (S.st_scars + 1))
set_option maxHeartbeats 4000000 in
set_option maxRecDepth 100000 in
theorem r_St_addScar (l : Launch) (D : jd_T) (g : Nat → Nat) (A : AW) (c : CW) (S : WS)  (r : Unit) (S9 : WS)  (hs : s_St_addScar c S  = some (r, S9)) : jc_C l D y_St_addScar b_St_addScar 1 none { frames := 0, cells := 0, slots := 0, locals := 0 } [.ref (g 2)] (wtL D g A c S) (fun _ : Unit => (.returned (none), True, wtL D g A c S9)) := by
  refine jc_of rfl (Nat.le_of_ble_eq_true rfl) ?_
  intro X hl hR hN ok hnm fin
  subst hl
  show jw X 0 0 (wtL D g A c S) [(0, .ref (g 2))] 0 []
  rw [s_St_addScar] at hs
  refine jr_aload_n ok 0 d_St_addScar_0 rfl rfl ?_
  refine jr_dup rfl ok d_St_addScar_1 ?_
  refine jr_get (v := .int (ii S.st_scars)) ok 3 f_St_43 rfl rfl d_St_addScar_2 ?_
  refine jr_iconst ok d_St_addScar_5 ?_
  refine jr_iadd ok d_St_addScar_6 ?_
  refine jr_put (wtL D g A c (WS.w_st_scars S (S.st_scars + 1))) ok 3 f_St_43 rfl rfl rfl (Nat.le_of_ble_eq_true rfl) rfl d_St_addScar_7 ?_
  exact jm_vret (Lf := wtL D g A c) ok fin hs d_St_addScar_10

def s_Gd_has (c : CW) (S : WS) (v0 : Nat) (v1 : Int) : Option (Int × WS) := if w32 v1 < 0 then some (0, S) else if w32 (c.gd v0) ≤ w32 v1 then some (0, S) else if (0 : Int) ≤ v1 ∧ v1 < (c.gd v0 : Int) then if w32 (S.gd_there v0 v1) = 0 then some (0, S) else some (1, S) else none
set_option maxHeartbeats 4000000 in
set_option maxRecDepth 100000 in
theorem r_Gd_has (l : Launch) (D : jd_T) (g : Nat → Nat) (A : AW) (c : CW) (S : WS) (v0 : Nat) (v1 : Int) (r : Int) (S9 : WS) (hv0 : v0 < 19) (hs : s_Gd_has c S v0 v1 = some (r, S9)) : jc_C l D y_Gd_has b_Gd_has 2 (some .boolean) { frames := 0, cells := 0, slots := 0, locals := 0 } [.ref (g (19 + v0)), .int (ii v1)] (wtL D g A c S) (fun _ : Unit => (.returned (some (.int (ii r))), True, wtL D g A c S9)) := by
  refine jc_of rfl (Nat.le_of_ble_eq_true rfl) ?_
  intro X hl hR hN ok hnm fin
  subst hl
  show jw X 0 0 (wtL D g A c S) [(0, .ref (g (19 + v0))), (1, .int (ii v1))] 0 []
  rw [s_Gd_has] at hs
  refine jr_iload_n ok 1 d_Gd_has_0 rfl rfl ?_
  refine jr_wif_lt 26 ok rfl d_Gd_has_1 (by decide) (fun c5 => ?_) (fun c5 => ?_)
  · replace hs := oq_pos c5 hs
    refine jr_iconst ok d_Gd_has_26 ?_
    exact jm_zret (Lf := wtL D g A c) ok (by decide +kernel) fin hs d_Gd_has_27
  · replace hs := oq_neg c5 hs
    refine jr_iload_n ok 1 d_Gd_has_4 rfl rfl ?_
    refine jr_aload_n ok 0 d_Gd_has_5 rfl rfl ?_
    refine jq_get (v := .ref (A.gt v0)) ok f_Gd_15 (sg_atp (F := grdW D g A c S) 23 rfl hv0 0 rfl) rfl d_Gd_has_6 ?_
    refine jq_alen_i ok (sg_atp (F := grdW D g A c S) 23 rfl hv0 2 rfl) rfl d_Gd_has_9 ?_
    refine jr_wicmp_ge 26 ok rfl rfl d_Gd_has_10 (by decide) (fun c6 => ?_) (fun c6 => ?_)
    · replace hs := oq_pos c6 hs
      refine jr_iconst ok d_Gd_has_26 ?_
      exact jm_zret (Lf := wtL D g A c) ok (by decide +kernel) fin hs d_Gd_has_27
    · replace hs := oq_neg c6 hs
      refine jr_aload_n ok 0 d_Gd_has_13 rfl rfl ?_
      refine jq_get (v := .ref (A.gt v0)) ok f_Gd_15 (sg_atp (F := grdW D g A c S) 23 rfl hv0 0 rfl) rfl d_Gd_has_14 ?_
      refine jr_iload_n ok 1 d_Gd_has_17 rfl rfl ?_
      obtain ⟨hb7, hs⟩ := oq_if hs
      refine jq_zald ok (sg_atp (F := grdW D g A c S) 23 rfl hv0 2 rfl) rfl hb7.1 hb7.2 d_Gd_has_18 ?_
      refine jr_wif_eq 26 ok rfl d_Gd_has_19 (by decide) (fun c8 => ?_) (fun c8 => ?_)
      · replace hs := oq_pos c8 hs
        refine jr_iconst ok d_Gd_has_26 ?_
        exact jm_zret (Lf := wtL D g A c) ok (by decide +kernel) fin hs d_Gd_has_27
      · replace hs := oq_neg c8 hs
        refine jr_iconst ok d_Gd_has_22 ?_
        refine jr_goto 27 ok d_Gd_has_23 (by decide) ?_
        exact jm_zret (Lf := wtL D g A c) ok (by decide +kernel) fin hs d_Gd_has_27

def s_Gd_isNamed (c : CW) (S : WS) (v0 : Nat) : Option (Int × WS) := if (S.gd_named v0) = 0 ∨ (S.gd_named v0) = 1 then some (S.gd_named v0, S) else none
set_option maxHeartbeats 4000000 in
set_option maxRecDepth 100000 in
theorem r_Gd_isNamed (l : Launch) (D : jd_T) (g : Nat → Nat) (A : AW) (c : CW) (S : WS) (v0 : Nat) (r : Int) (S9 : WS) (hv0 : v0 < 19) (hs : s_Gd_isNamed c S v0 = some (r, S9)) : jc_C l D y_Gd_isNamed b_Gd_isNamed 1 (some .boolean) { frames := 0, cells := 0, slots := 0, locals := 0 } [.ref (g (19 + v0))] (wtL D g A c S) (fun _ : Unit => (.returned (some (.int (ii r))), True, wtL D g A c S9)) := by
  refine jc_of rfl (Nat.le_of_ble_eq_true rfl) ?_
  intro X hl hR hN ok hnm fin
  subst hl
  show jw X 0 0 (wtL D g A c S) [(0, .ref (g (19 + v0)))] 0 []
  rw [s_Gd_isNamed] at hs
  refine jr_aload_n ok 0 d_Gd_isNamed_0 rfl rfl ?_
  refine jq_get (v := .int (ii (S.gd_named v0))) ok f_Gd_26 (sg_atp (F := grdW D g A c S) 23 rfl hv0 0 rfl) rfl d_Gd_isNamed_1 ?_
  obtain ⟨hb2, hs⟩ := oq_if hs
  exact jm_zret (Lf := wtL D g A c) ok (nz_b hb2) fin hs d_Gd_isNamed_4

def s_Ev_resultOf (v0 : Int) (v1 : Int64) (v3 : Int64) : Option (Int64) := if w32 v0 = 42 then some (v1 * v3) else if w32 v0 = 43 then some (v1 + v3) else if w32 v0 = 44 then if v3.toInt = 0 then some (ll 0) else if ¬ v3 = 0 then some (v1 - v1 / v3 * v3) else none else if w32 v0 = 45 then some (v1 - v3) else if w32 v0 = 46 then if v3.toInt = 0 then some (ll 0) else if ¬ v3 = 0 then some (v1 - v1 / v3 * v3) else none else if w32 v0 = 47 then if v3.toInt = 0 then some (ll 0) else if ¬ v3 = 0 then some (v1 / v3) else none else if v3.toInt = 0 then some (ll 0) else if ¬ v3 = 0 then some (v1 - v1 / v3 * v3) else none
set_option maxHeartbeats 4000000 in
set_option maxRecDepth 100000 in
theorem r_Ev_resultOf (l : Launch) (D : jd_T) (v0 : Int) (v1 : Int64) (v3 : Int64) (r : Int64) (hs : s_Ev_resultOf v0 v1 v3 = some r) : jc_C l D y_Ev_resultOf b_Ev_resultOf 5 (some .long) { frames := 0, cells := 0, slots := 0, locals := 0 } [.int (ii v0), .long v1, .long v3] [] (fun _ : Unit => (.returned (some (.long r)), True, [])) := by
  refine jc_of rfl (Nat.le_of_ble_eq_true rfl) ?_
  intro X hl hR hN ok hnm fin
  subst hl
  show jw X 0 0 [] [(0, .int (ii v0)), (1, .long v1), (3, .long v3)] 0 []
  rw [s_Ev_resultOf] at hs
  refine jr_iload_n ok 0 d_Ev_resultOf_0 rfl rfl ?_
  by_cases c15 : w32 v0 = 42
  · replace hs := oq_pos c15 hs
    refine jr_wtab (off := 47) 48 c15 ok d_Ev_resultOf_1 (by decide) (by decide) rfl (by decide) ?_
    refine jr_lload_n ok 1 d_Ev_resultOf_48 rfl rfl ?_
    refine jr_lload_n ok 2 d_Ev_resultOf_49 rfl rfl ?_
    refine jr_lmulx ok d_Ev_resultOf_50 ?_
    exact jm_lrets ok fin hs d_Ev_resultOf_51
  · replace hs := oq_neg c15 hs
    by_cases c16 : w32 v0 = 43
    · replace hs := oq_pos c16 hs
      refine jr_wtab (off := 39) 40 c16 ok d_Ev_resultOf_1 (by decide) (by decide) rfl (by decide) ?_
      refine jr_lload_n ok 1 d_Ev_resultOf_40 rfl rfl ?_
      refine jr_lload_n ok 2 d_Ev_resultOf_41 rfl rfl ?_
      refine jr_laddx ok d_Ev_resultOf_42 ?_
      exact jm_lrets ok fin hs d_Ev_resultOf_43
    · replace hs := oq_neg c16 hs
      by_cases c17 : w32 v0 = 44
      · replace hs := oq_pos c17 hs
        refine jr_wtab (off := 65) 66 c17 ok d_Ev_resultOf_1 (by decide) (by decide) rfl (by decide) ?_
        refine jr_lload_n ok 2 d_Ev_resultOf_66 rfl rfl ?_
        refine jr_lconst (z := 0) ok d_Ev_resultOf_67 (by decide +kernel) ?_
        refine jr_lif_ne 76 ok rfl (ll_toInt ⟨by decide, by decide⟩) d_Ev_resultOf_68 d_Ev_resultOf_69 (by decide) (fun c18 => ?_) (fun c18 => ?_)
        · replace hs := oq_neg c18 hs
          refine jr_lload_n ok 1 d_Ev_resultOf_76 rfl rfl ?_
          refine jr_lload_n ok 2 d_Ev_resultOf_77 rfl rfl ?_
          obtain ⟨hb19, hs⟩ := oq_if hs
          refine jr_lremx ok d_Ev_resultOf_78 hb19 ?_
          exact jm_lrets ok fin hs d_Ev_resultOf_79
        · replace hs := oq_pos c18 hs
          refine jr_lconst (z := 0) ok d_Ev_resultOf_72 (by decide +kernel) ?_
          refine jr_goto 79 ok d_Ev_resultOf_73 (by decide) ?_
          exact jm_lrets ok fin hs d_Ev_resultOf_79
      · replace hs := oq_neg c17 hs
        by_cases c20 : w32 v0 = 45
        · replace hs := oq_pos c20 hs
          refine jr_wtab (off := 43) 44 c20 ok d_Ev_resultOf_1 (by decide) (by decide) rfl (by decide) ?_
          refine jr_lload_n ok 1 d_Ev_resultOf_44 rfl rfl ?_
          refine jr_lload_n ok 2 d_Ev_resultOf_45 rfl rfl ?_
          refine jr_lsubx ok d_Ev_resultOf_46 ?_
          exact jm_lrets ok fin hs d_Ev_resultOf_47
        · replace hs := oq_neg c20 hs
          by_cases c21 : w32 v0 = 46
          · replace hs := oq_pos c21 hs
            refine jr_wtab (off := 65) 66 c21 ok d_Ev_resultOf_1 (by decide) (by decide) rfl (by decide) ?_
            refine jr_lload_n ok 2 d_Ev_resultOf_66 rfl rfl ?_
            refine jr_lconst (z := 0) ok d_Ev_resultOf_67 (by decide +kernel) ?_
            refine jr_lif_ne 76 ok rfl (ll_toInt ⟨by decide, by decide⟩) d_Ev_resultOf_68 d_Ev_resultOf_69 (by decide) (fun c22 => ?_) (fun c22 => ?_)
            · replace hs := oq_neg c22 hs
              refine jr_lload_n ok 1 d_Ev_resultOf_76 rfl rfl ?_
              refine jr_lload_n ok 2 d_Ev_resultOf_77 rfl rfl ?_
              obtain ⟨hb23, hs⟩ := oq_if hs
              refine jr_lremx ok d_Ev_resultOf_78 hb23 ?_
              exact jm_lrets ok fin hs d_Ev_resultOf_79
            · replace hs := oq_pos c22 hs
              refine jr_lconst (z := 0) ok d_Ev_resultOf_72 (by decide +kernel) ?_
              refine jr_goto 79 ok d_Ev_resultOf_73 (by decide) ?_
              exact jm_lrets ok fin hs d_Ev_resultOf_79
          · replace hs := oq_neg c21 hs
            by_cases c24 : w32 v0 = 47
            · replace hs := oq_pos c24 hs
              refine jr_wtab (off := 51) 52 c24 ok d_Ev_resultOf_1 (by decide) (by decide) rfl (by decide) ?_
              refine jr_lload_n ok 2 d_Ev_resultOf_52 rfl rfl ?_
              refine jr_lconst (z := 0) ok d_Ev_resultOf_53 (by decide +kernel) ?_
              refine jr_lif_ne 62 ok rfl (ll_toInt ⟨by decide, by decide⟩) d_Ev_resultOf_54 d_Ev_resultOf_55 (by decide) (fun c25 => ?_) (fun c25 => ?_)
              · replace hs := oq_neg c25 hs
                refine jr_lload_n ok 1 d_Ev_resultOf_62 rfl rfl ?_
                refine jr_lload_n ok 2 d_Ev_resultOf_63 rfl rfl ?_
                obtain ⟨hb26, hs⟩ := oq_if hs
                refine jr_ldivx ok d_Ev_resultOf_64 hb26 ?_
                exact jm_lrets ok fin hs d_Ev_resultOf_65
              · replace hs := oq_pos c25 hs
                refine jr_lconst (z := 0) ok d_Ev_resultOf_58 (by decide +kernel) ?_
                refine jr_goto 65 ok d_Ev_resultOf_59 (by decide) ?_
                exact jm_lrets ok fin hs d_Ev_resultOf_65
            · replace hs := oq_neg c24 hs
              refine jr_wtabD 66 rfl ok d_Ev_resultOf_1 (by omega) (by decide) ?_
              refine jr_lload_n ok 2 d_Ev_resultOf_66 rfl rfl ?_
              refine jr_lconst (z := 0) ok d_Ev_resultOf_67 (by decide +kernel) ?_
              refine jr_lif_ne 76 ok rfl (ll_toInt ⟨by decide, by decide⟩) d_Ev_resultOf_68 d_Ev_resultOf_69 (by decide) (fun c27 => ?_) (fun c27 => ?_)
              · replace hs := oq_neg c27 hs
                refine jr_lload_n ok 1 d_Ev_resultOf_76 rfl rfl ?_
                refine jr_lload_n ok 2 d_Ev_resultOf_77 rfl rfl ?_
                obtain ⟨hb28, hs⟩ := oq_if hs
                refine jr_lremx ok d_Ev_resultOf_78 hb28 ?_
                exact jm_lrets ok fin hs d_Ev_resultOf_79
              · replace hs := oq_pos c27 hs
                refine jr_lconst (z := 0) ok d_Ev_resultOf_72 (by decide +kernel) ?_
                refine jr_goto 79 ok d_Ev_resultOf_73 (by decide) ?_
                exact jm_lrets ok fin hs d_Ev_resultOf_79

def s_Se_letterAt (c : CW) (S : WS) (v0 : Nat) (v1 : Int) : Option (Int × WS) := if w32 v1 < 0 then some (-1, S) else if w32 (c.ln v0) ≤ w32 v1 then some (-1, S) else if (0 : Int) ≤ v1 ∧ v1 < (c.ln v0 : Int) then some (S.se_letters v0 v1, S) else none
set_option maxHeartbeats 4000000 in
set_option maxRecDepth 100000 in
theorem r_Se_letterAt (l : Launch) (D : jd_T) (g : Nat → Nat) (A : AW) (c : CW) (S : WS) (v0 : Nat) (v1 : Int) (r : Int) (S9 : WS) (hv0 : v0 < c.N) (hs : s_Se_letterAt c S v0 v1 = some (r, S9)) : jc_C l D y_Se_letterAt b_Se_letterAt 2 (some .int) { frames := 0, cells := 0, slots := 0, locals := 0 } [.ref (A.us v0 0), .int (ii v1)] (wtL D g A c S) (fun _ : Unit => (.returned (some (.int (ii r))), True, wtL D g A c S9)) := by
  refine jc_of rfl (Nat.le_of_ble_eq_true rfl) ?_
  intro X hl hR hN ok hnm fin
  subst hl
  show jw X 0 0 (wtL D g A c S) [(0, .ref (A.us v0 0)), (1, .int (ii v1))] 0 []
  rw [s_Se_letterAt] at hs
  refine jr_iload_n ok 1 d_Se_letterAt_0 rfl rfl ?_
  refine jr_wif_lt 22 ok rfl d_Se_letterAt_1 (by decide) (fun c4 => ?_) (fun c4 => ?_)
  · replace hs := oq_pos c4 hs
    refine jr_iconst ok d_Se_letterAt_22 ?_
    exact jm_iret (Lf := wtL D g A c) ok fin hs d_Se_letterAt_23
  · replace hs := oq_neg c4 hs
    refine jr_iload_n ok 1 d_Se_letterAt_4 rfl rfl ?_
    refine jr_aload_n ok 0 d_Se_letterAt_5 rfl rfl ?_
    refine jq_get (v := .ref (A.us v0 1)) ok f_Se_18 (sg_atp (F := serW D A c S) 5 rfl hv0 0 rfl) rfl d_Se_letterAt_6 ?_
    refine jq_alen_i ok (sg_atp (F := serW D A c S) 5 rfl hv0 1 rfl) rfl d_Se_letterAt_9 ?_
    refine jr_wicmp_ge 22 ok rfl rfl d_Se_letterAt_10 (by decide) (fun c5 => ?_) (fun c5 => ?_)
    · replace hs := oq_pos c5 hs
      refine jr_iconst ok d_Se_letterAt_22 ?_
      exact jm_iret (Lf := wtL D g A c) ok fin hs d_Se_letterAt_23
    · replace hs := oq_neg c5 hs
      refine jr_aload_n ok 0 d_Se_letterAt_13 rfl rfl ?_
      refine jq_get (v := .ref (A.us v0 1)) ok f_Se_18 (sg_atp (F := serW D A c S) 5 rfl hv0 0 rfl) rfl d_Se_letterAt_14 ?_
      refine jr_iload_n ok 1 d_Se_letterAt_17 rfl rfl ?_
      obtain ⟨hb6, hs⟩ := oq_if hs
      refine jq_bald ok (sg_atp (F := serW D A c S) 5 rfl hv0 1 rfl) rfl hb6.1 hb6.2 d_Se_letterAt_18 ?_
      refine jr_goto 23 ok d_Se_letterAt_19 (by decide) ?_
      exact jm_iret (Lf := wtL D g A c) ok fin hs d_Se_letterAt_23

def s_Tp_byteAt (c : CW) (S : WS) (v1 : Int) : Option (Int × WS) := if w32 v1 < 0 then some (-1, S) else if w32 S.tp_size ≤ w32 v1 then some (-1, S) else if (0 : Int) ≤ v1 ∧ v1 < (c.tc : Int) then some (gAnd (S.tp_bytes v1) 255, S) else none
set_option maxHeartbeats 4000000 in
set_option maxRecDepth 100000 in
theorem r_Tp_byteAt (l : Launch) (D : jd_T) (g : Nat → Nat) (A : AW) (c : CW) (S : WS) (v1 : Int) (r : Int) (S9 : WS)  (hs : s_Tp_byteAt c S v1 = some (r, S9)) : jc_C l D y_Tp_byteAt b_Tp_byteAt 2 (some .int) { frames := 0, cells := 0, slots := 0, locals := 0 } [.ref (g 1), .int (ii v1)] (wtL D g A c S) (fun _ : Unit => (.returned (some (.int (ii r))), True, wtL D g A c S9)) := by
  refine jc_of rfl (Nat.le_of_ble_eq_true rfl) ?_
  intro X hl hR hN ok hnm fin
  subst hl
  show jw X 0 0 (wtL D g A c S) [(0, .ref (g 1)), (1, .int (ii v1))] 0 []
  rw [s_Tp_byteAt] at hs
  refine jr_iload_n ok 1 d_Tp_byteAt_0 rfl rfl ?_
  refine jr_wif_lt 25 ok rfl d_Tp_byteAt_1 (by decide) (fun c4 => ?_) (fun c4 => ?_)
  · replace hs := oq_pos c4 hs
    refine jr_iconst ok d_Tp_byteAt_25 ?_
    exact jm_iret (Lf := wtL D g A c) ok fin hs d_Tp_byteAt_26
  · replace hs := oq_neg c4 hs
    refine jr_iload_n ok 1 d_Tp_byteAt_4 rfl rfl ?_
    refine jr_aload_n ok 0 d_Tp_byteAt_5 rfl rfl ?_
    refine jr_get (v := .int (ii S.tp_size)) ok 1 f_Tp_15 rfl rfl d_Tp_byteAt_6 ?_
    refine jr_wicmp_ge 25 ok rfl rfl d_Tp_byteAt_9 (by decide) (fun c5 => ?_) (fun c5 => ?_)
    · replace hs := oq_pos c5 hs
      refine jr_iconst ok d_Tp_byteAt_25 ?_
      exact jm_iret (Lf := wtL D g A c) ok fin hs d_Tp_byteAt_26
    · replace hs := oq_neg c5 hs
      refine jr_aload_n ok 0 d_Tp_byteAt_12 rfl rfl ?_
      refine jr_get (v := .ref A.ta) ok 1 f_Tp_9 rfl rfl d_Tp_byteAt_13 ?_
      refine jr_iload_n ok 1 d_Tp_byteAt_16 rfl rfl ?_
      obtain ⟨hb6, hs⟩ := oq_if hs
      refine jr_bald ok 2 rfl rfl hb6.1 hb6.2 d_Tp_byteAt_17 ?_
      refine jr_sipush ok d_Tp_byteAt_18 (by decide +kernel) ?_
      refine jr_iand (z := gAnd (S.tp_bytes v1) 255) ok d_Tp_byteAt_21 (ii_of _).symm ?_
      refine jr_goto 26 ok d_Tp_byteAt_22 (by decide) ?_
      exact jm_iret (Lf := wtL D g A c) ok fin hs d_Tp_byteAt_26

def s_Gd_keepLines (c : CW) (S : WS) (v0 : Nat) (v1 : Int) : Option (Unit × WS) := some ((), WS.w_gd_lines S (nU S.gd_lines v0 v1))
set_option maxHeartbeats 4000000 in
set_option maxRecDepth 100000 in
theorem r_Gd_keepLines (l : Launch) (D : jd_T) (g : Nat → Nat) (A : AW) (c : CW) (S : WS) (v0 : Nat) (v1 : Int) (r : Unit) (S9 : WS) (hv0 : v0 < 19) (hs : s_Gd_keepLines c S v0 v1 = some (r, S9)) : jc_C l D y_Gd_keepLines b_Gd_keepLines 2 none { frames := 0, cells := 0, slots := 0, locals := 0 } [.ref (g (19 + v0)), .int (ii v1)] (wtL D g A c S) (fun _ : Unit => (.returned (none), True, wtL D g A c S9)) := by
  refine jc_of rfl (Nat.le_of_ble_eq_true rfl) ?_
  intro X hl hR hN ok hnm fin
  subst hl
  show jw X 0 0 (wtL D g A c S) [(0, .ref (g (19 + v0))), (1, .int (ii v1))] 0 []
  rw [s_Gd_keepLines] at hs
  refine jr_aload_n ok 0 d_Gd_keepLines_0 rfl rfl ?_
  refine jr_iload_n ok 1 d_Gd_keepLines_1 rfl rfl ?_
  refine jq_put (wtL D g A c (WS.w_gd_lines S (nU S.gd_lines v0 v1))) ok f_Gd_19 (sg_atp (F := grdW D g A c S) 23 rfl hv0 0 rfl) rfl rfl (Nat.le_of_ble_eq_true rfl) ⟨grdW D g A c (WS.w_gd_lines S (nU S.gd_lines v0 v1)), fun j hj => by simp only [grdW, nU, if_neg hj, WS.w_gd_lines, WS.gd_numbers, WS.gd_there, WS.gd_lines, WS.gd_windows, WS.gd_named], by simp [grdW, nU, WS.w_gd_lines, WS.gd_numbers, WS.gd_there, WS.gd_lines, WS.gd_windows, WS.gd_named] <;> rfl, rfl⟩ d_Gd_keepLines_2 ?_
  exact jm_vret (Lf := wtL D g A c) ok fin hs d_Gd_keepLines_5

def s_LR_faultCode (c : CW) (S : WS)  : Option (Int × WS) := some (S.lr_faultCode, S)
set_option maxHeartbeats 4000000 in
set_option maxRecDepth 100000 in
theorem r_LR_faultCode (l : Launch) (D : jd_T) (g : Nat → Nat) (A : AW) (c : CW) (S : WS)  (r : Int) (S9 : WS)  (hs : s_LR_faultCode c S  = some (r, S9)) : jc_C l D y_LR_faultCode b_LR_faultCode 1 (some .int) { frames := 0, cells := 0, slots := 0, locals := 0 } [.ref (g 4)] (wtL D g A c S) (fun _ : Unit => (.returned (some (.int (ii r))), True, wtL D g A c S9)) := by
  refine jc_of rfl (Nat.le_of_ble_eq_true rfl) ?_
  intro X hl hR hN ok hnm fin
  subst hl
  show jw X 0 0 (wtL D g A c S) [(0, .ref (g 4))] 0 []
  rw [s_LR_faultCode] at hs
  refine jr_aload_n ok 0 d_LR_faultCode_0 rfl rfl ?_
  refine jr_get (v := .int (ii S.lr_faultCode)) ok 6 f_LR_25 rfl rfl d_LR_faultCode_1 ?_
  exact jm_iret (Lf := wtL D g A c) ok fin hs d_LR_faultCode_4

def s_LR_length (c : CW) (S : WS)  : Option (Int × WS) := some (S.lr_length, S)
set_option maxHeartbeats 4000000 in
set_option maxRecDepth 100000 in
theorem r_LR_length (l : Launch) (D : jd_T) (g : Nat → Nat) (A : AW) (c : CW) (S : WS)  (r : Int) (S9 : WS)  (hs : s_LR_length c S  = some (r, S9)) : jc_C l D y_LR_length b_LR_length 1 (some .int) { frames := 0, cells := 0, slots := 0, locals := 0 } [.ref (g 4)] (wtL D g A c S) (fun _ : Unit => (.returned (some (.int (ii r))), True, wtL D g A c S9)) := by
  refine jc_of rfl (Nat.le_of_ble_eq_true rfl) ?_
  intro X hl hR hN ok hnm fin
  subst hl
  show jw X 0 0 (wtL D g A c S) [(0, .ref (g 4))] 0 []
  rw [s_LR_length] at hs
  refine jr_aload_n ok 0 d_LR_length_0 rfl rfl ?_
  refine jr_get (v := .int (ii S.lr_length)) ok 6 f_LR_32 rfl rfl d_LR_length_1 ?_
  exact jm_iret (Lf := wtL D g A c) ok fin hs d_LR_length_4

def s_Lx_stop (c : CW) (S : WS)  : Option (Unit × WS) := some ((), WS.w_lx_kind S 300)
set_option maxHeartbeats 4000000 in
set_option maxRecDepth 100000 in
theorem r_Lx_stop (l : Launch) (D : jd_T) (g : Nat → Nat) (A : AW) (c : CW) (S : WS)  (r : Unit) (S9 : WS)  (hs : s_Lx_stop c S  = some (r, S9)) : jc_C l D y_Lx_stop b_Lx_stop 1 none { frames := 0, cells := 0, slots := 0, locals := 0 } [.ref (g 11)] (wtL D g A c S) (fun _ : Unit => (.returned (none), True, wtL D g A c S9)) := by
  refine jc_of rfl (Nat.le_of_ble_eq_true rfl) ?_
  intro X hl hR hN ok hnm fin
  subst hl
  show jw X 0 0 (wtL D g A c S) [(0, .ref (g 11))] 0 []
  rw [s_Lx_stop] at hs
  refine jr_aload_n ok 0 d_Lx_stop_0 rfl rfl ?_
  refine jr_sipush ok d_Lx_stop_1 (by decide +kernel) ?_
  refine jr_put (wtL D g A c (WS.w_lx_kind S 300)) ok 14 f_Lx_15 rfl rfl rfl (Nat.le_of_ble_eq_true rfl) rfl d_Lx_stop_4 ?_
  exact jm_vret (Lf := wtL D g A c) ok fin hs d_Lx_stop_7

def s_Pt_packedAmong (c : CW) (S : WS) (v0 : Nat) (v1 : Int) (v2 : Int) : Option (Int × WS) := some (max 0 (w32 ((min (w32 v2) (w32 (S.pt_packed v0))) - v1)), S)
set_option maxHeartbeats 4000000 in
set_option maxRecDepth 100000 in
theorem r_Pt_packedAmong (l : Launch) (D : jd_T) (g : Nat → Nat) (A : AW) (c : CW) (S : WS) (v0 : Nat) (v1 : Int) (v2 : Int) (r : Int) (S9 : WS) (hv0 : v0 < c.N) (hs : s_Pt_packedAmong c S v0 v1 v2 = some (r, S9)) : jc_C l D y_Pt_packedAmong b_Pt_packedAmong 3 (some .int) { frames := 1, cells := 0, slots := 0, locals := 30 } [.ref (A.us v0 5), .int (ii v1), .int (ii v2)] (wtL D g A c S) (fun _ : Unit => (.returned (some (.int (ii r))), True, wtL D g A c S9)) := by
  refine jc_of rfl (Nat.le_of_ble_eq_true rfl) ?_
  intro X hl hR hN ok hnm fin
  subst hl
  show jw X 0 0 (wtL D g A c S) [(0, .ref (A.us v0 5)), (1, .int (ii v1)), (2, .int (ii v2))] 0 []
  rw [s_Pt_packedAmong] at hs
  refine jr_iconst ok d_Pt_packedAmong_0 ?_
  refine jr_iload_n ok 2 d_Pt_packedAmong_1 rfl rfl ?_
  refine jr_aload_n ok 0 d_Pt_packedAmong_2 rfl rfl ?_
  refine jq_get (v := .int (ii (S.pt_packed v0))) ok f_Pt_44 (sg_atp (F := serW D A c S) 5 rfl hv0 5 rfl) rfl d_Pt_packedAmong_3 ?_
  refine jr_wimin ok w_706 w_402 w_17 w_403 rfl rfl hR ⟨Nat.le_of_ble_eq_true rfl, Nat.le_of_ble_eq_true rfl⟩ ⟨Nat.zero_le _, Nat.zero_le _⟩ (Nat.le_of_ble_eq_true rfl) d_Pt_packedAmong_6 ?_
  refine jr_iload_n ok 1 d_Pt_packedAmong_9 rfl rfl ?_
  refine jr_isub ok d_Pt_packedAmong_10 ?_
  refine jr_wimax ok w_656 w_657 w_17 w_658 (show w32 0 = 0 by decide) rfl hR ⟨Nat.le_of_ble_eq_true rfl, Nat.le_of_ble_eq_true rfl⟩ ⟨Nat.zero_le _, Nat.zero_le _⟩ (Nat.le_of_ble_eq_true rfl) d_Pt_packedAmong_11 ?_
  exact jm_iret (Lf := wtL D g A c) ok fin hs d_Pt_packedAmong_14

def s_Pg_size (c : CW) (S : WS)  : Option (Int × WS) := some (S.pg_size, S)
set_option maxHeartbeats 4000000 in
set_option maxRecDepth 100000 in
theorem r_Pg_size (l : Launch) (D : jd_T) (g : Nat → Nat) (A : AW) (c : CW) (S : WS)  (r : Int) (S9 : WS)  (hs : s_Pg_size c S  = some (r, S9)) : jc_C l D y_Pg_size b_Pg_size 1 (some .int) { frames := 0, cells := 0, slots := 0, locals := 0 } [.ref (g 9)] (wtL D g A c S) (fun _ : Unit => (.returned (some (.int (ii r))), True, wtL D g A c S9)) := by
  refine jc_of rfl (Nat.le_of_ble_eq_true rfl) ?_
  intro X hl hR hN ok hnm fin
  subst hl
  show jw X 0 0 (wtL D g A c S) [(0, .ref (g 9))] 0 []
  rw [s_Pg_size] at hs
  refine jr_aload_n ok 0 d_Pg_size_0 rfl rfl ?_
  refine jr_get (v := .int (ii S.pg_size)) ok 11 f_Pg_15 rfl rfl d_Pg_size_1 ?_
  exact jm_iret (Lf := wtL D g A c) ok fin hs d_Pg_size_4

def s_Ev_table (c : CW) (S : WS)  : Option (Nat × WS) := if (0 : Int) ≤ 0 ∧ 0 < (19 : Int) then if S.ev_stack 0 < 19 then some (S.ev_stack 0, S) else none else none
set_option maxHeartbeats 4000000 in
set_option maxRecDepth 100000 in
theorem r_Ev_table (l : Launch) (D : jd_T) (g : Nat → Nat) (A : AW) (c : CW) (S : WS)  (r : Nat) (S9 : WS)  (hs : s_Ev_table c S  = some (r, S9)) : jc_C l D y_Ev_table b_Ev_table 1 (some (.object "WindowTables$Grid")) { frames := 0, cells := 0, slots := 0, locals := 0 } [.ref (g 17)] (wtL D g A c S) (fun _ : Unit => (.returned (some (.ref (g (19 + r)))), True, wtL D g A c S9)) := by
  refine jc_of rfl (Nat.le_of_ble_eq_true rfl) ?_
  intro X hl hR hN ok hnm fin
  subst hl
  show jw X 0 0 (wtL D g A c S) [(0, .ref (g 17))] 0 []
  rw [s_Ev_table] at hs
  refine jr_aload_n ok 0 d_Ev_table_0 rfl rfl ?_
  refine jr_get (v := .ref (g 18)) ok 20 f_Ev_11 rfl rfl d_Ev_table_1 ?_
  refine jr_iconst ok d_Ev_table_4 ?_
  obtain ⟨hb3, hs⟩ := oq_if hs
  obtain ⟨hb4, hs⟩ := oq_if hs
  refine jr_aald ok 21 rfl rfl rfl hb3.1 hb3.2 d_Ev_table_5 ?_
  show jw X 0 0 (wtL D g A c S) [(0, .ref (g 17))] 6 [.ref (g (19 + (S.ev_stack 0)))]
  exact jm_aret (f := fun z => (g (19 + z))) (Lg := wtL D g A c) ok fin hs d_Ev_table_6

def q_Ev_isAllowed_18  : Option (Int) := some 1

def s_Ev_isAllowed (v0 : Int) (v1 : Int64) : Option (Int) := if v1.toInt = 0 then if w32 v0 = 47 then some 0 else if w32 v0 = 37 then some 0 else q_Ev_isAllowed_18  else q_Ev_isAllowed_18 
set_option maxHeartbeats 4000000 in
set_option maxRecDepth 100000 in
theorem r_Ev_isAllowed (l : Launch) (D : jd_T) (v0 : Int) (v1 : Int64) (r : Int) (hs : s_Ev_isAllowed v0 v1 = some r) : jc_C l D y_Ev_isAllowed b_Ev_isAllowed 3 (some .boolean) { frames := 0, cells := 0, slots := 0, locals := 0 } [.int (ii v0), .long v1] [] (fun _ : Unit => (.returned (some (.int (ii r))), True, [])) := by
  refine jc_of rfl (Nat.le_of_ble_eq_true rfl) ?_
  intro X hl hR hN ok hnm fin
  subst hl
  have B_18 : q_Ev_isAllowed_18  = some r → jw X 0 0 [] [] 18 [] := by
    intro hs
    rw [q_Ev_isAllowed_18] at hs
    refine jr_iconst ok d_Ev_isAllowed_18 ?_
    refine jr_goto 23 ok d_Ev_isAllowed_19 (by decide) ?_
    exact jm_zrets ok (by decide +kernel) fin hs d_Ev_isAllowed_23
  show jw X 0 0 [] [(0, .int (ii v0)), (1, .long v1)] 0 []
  rw [s_Ev_isAllowed] at hs
  refine jr_lload_n ok 1 d_Ev_isAllowed_0 rfl rfl ?_
  refine jr_lconst (z := 0) ok d_Ev_isAllowed_1 (by decide +kernel) ?_
  refine jr_lif_ne 18 ok rfl (ll_toInt ⟨by decide, by decide⟩) d_Ev_isAllowed_2 d_Ev_isAllowed_3 (by decide) (fun c4 => ?_) (fun c4 => ?_)
  · replace hs := oq_neg c4 hs
    exact jr_lv [] rfl (B_18 hs)
  · replace hs := oq_pos c4 hs
    refine jr_iload_n ok 0 d_Ev_isAllowed_6 rfl rfl ?_
    refine jr_bipush ok d_Ev_isAllowed_7 (by decide +kernel) ?_
    refine jr_wicmp_eq 22 ok rfl (show w32 47 = 47 by decide) d_Ev_isAllowed_9 (by decide) (fun c5 => ?_) (fun c5 => ?_)
    · replace hs := oq_pos c5 hs
      refine jr_iconst ok d_Ev_isAllowed_22 ?_
      exact jm_zrets ok (by decide +kernel) fin hs d_Ev_isAllowed_23
    · replace hs := oq_neg c5 hs
      refine jr_iload_n ok 0 d_Ev_isAllowed_12 rfl rfl ?_
      refine jr_bipush ok d_Ev_isAllowed_13 (by decide +kernel) ?_
      refine jr_wicmp_eq 22 ok rfl (show w32 37 = 37 by decide) d_Ev_isAllowed_15 (by decide) (fun c6 => ?_) (fun c6 => ?_)
      · replace hs := oq_pos c6 hs
        refine jr_iconst ok d_Ev_isAllowed_22 ?_
        exact jm_zrets ok (by decide +kernel) fin hs d_Ev_isAllowed_23
      · replace hs := oq_neg c6 hs
        exact jr_lv [] rfl (B_18 hs)

def s_Pt_size (c : CW) (S : WS) (v0 : Nat) : Option (Int × WS) := some (S.pt_size v0, S)
set_option maxHeartbeats 4000000 in
set_option maxRecDepth 100000 in
theorem r_Pt_size (l : Launch) (D : jd_T) (g : Nat → Nat) (A : AW) (c : CW) (S : WS) (v0 : Nat) (r : Int) (S9 : WS) (hv0 : v0 < c.N) (hs : s_Pt_size c S v0 = some (r, S9)) : jc_C l D y_Pt_size b_Pt_size 1 (some .int) { frames := 0, cells := 0, slots := 0, locals := 0 } [.ref (A.us v0 5)] (wtL D g A c S) (fun _ : Unit => (.returned (some (.int (ii r))), True, wtL D g A c S9)) := by
  refine jc_of rfl (Nat.le_of_ble_eq_true rfl) ?_
  intro X hl hR hN ok hnm fin
  subst hl
  show jw X 0 0 (wtL D g A c S) [(0, .ref (A.us v0 5))] 0 []
  rw [s_Pt_size] at hs
  refine jr_aload_n ok 0 d_Pt_size_0 rfl rfl ?_
  refine jq_get (v := .int (ii (S.pt_size v0))) ok f_Pt_24 (sg_atp (F := serW D A c S) 5 rfl hv0 5 rfl) rfl d_Pt_size_1 ?_
  exact jm_iret (Lf := wtL D g A c) ok fin hs d_Pt_size_4

def s_Gr_moveLeader (c : CW) (S : WS) (v1 : Int) (v2 : Int) : Option (Unit × WS) := if w32 v1 < 0 then some ((), S) else if w32 S.gr_size ≤ w32 v1 then some ((), S) else if w32 v2 < 0 then some ((), S) else if w32 v1 < w32 v2 then some ((), S) else if (0 : Int) ≤ v1 ∧ v1 < (256 : Int) then if (0 : Int) ≤ v2 ∧ v2 < (256 : Int) then some ((), WS.w_gr_leaders S (aU S.gr_leaders v2 (S.gr_leaders v1))) else none else none
set_option maxHeartbeats 4000000 in
set_option maxRecDepth 100000 in
theorem r_Gr_moveLeader (l : Launch) (D : jd_T) (g : Nat → Nat) (A : AW) (c : CW) (S : WS) (v1 : Int) (v2 : Int) (r : Unit) (S9 : WS)  (hs : s_Gr_moveLeader c S v1 v2 = some (r, S9)) : jc_C l D y_Gr_moveLeader b_Gr_moveLeader 3 none { frames := 0, cells := 0, slots := 0, locals := 0 } [.ref (g 12), .int (ii v1), .int (ii v2)] (wtL D g A c S) (fun _ : Unit => (.returned (none), True, wtL D g A c S9)) := by
  refine jc_of rfl (Nat.le_of_ble_eq_true rfl) ?_
  intro X hl hR hN ok hnm fin
  subst hl
  show jw X 0 0 (wtL D g A c S) [(0, .ref (g 12)), (1, .int (ii v1)), (2, .int (ii v2))] 0 []
  rw [s_Gr_moveLeader] at hs
  refine jr_iload_n ok 1 d_Gr_moveLeader_0 rfl rfl ?_
  refine jr_wif_lt 33 ok rfl d_Gr_moveLeader_1 (by decide) (fun c7 => ?_) (fun c7 => ?_)
  · replace hs := oq_pos c7 hs
    exact jm_vret (Lf := wtL D g A c) ok fin hs d_Gr_moveLeader_33
  · replace hs := oq_neg c7 hs
    refine jr_iload_n ok 1 d_Gr_moveLeader_4 rfl rfl ?_
    refine jr_aload_n ok 0 d_Gr_moveLeader_5 rfl rfl ?_
    refine jr_get (v := .int (ii S.gr_size)) ok 15 f_Gr_40 rfl rfl d_Gr_moveLeader_6 ?_
    refine jr_wicmp_ge 33 ok rfl rfl d_Gr_moveLeader_9 (by decide) (fun c8 => ?_) (fun c8 => ?_)
    · replace hs := oq_pos c8 hs
      exact jm_vret (Lf := wtL D g A c) ok fin hs d_Gr_moveLeader_33
    · replace hs := oq_neg c8 hs
      refine jr_iload_n ok 2 d_Gr_moveLeader_12 rfl rfl ?_
      refine jr_wif_lt 33 ok rfl d_Gr_moveLeader_13 (by decide) (fun c9 => ?_) (fun c9 => ?_)
      · replace hs := oq_pos c9 hs
        exact jm_vret (Lf := wtL D g A c) ok fin hs d_Gr_moveLeader_33
      · replace hs := oq_neg c9 hs
        refine jr_iload_n ok 2 d_Gr_moveLeader_16 rfl rfl ?_
        refine jr_iload_n ok 1 d_Gr_moveLeader_17 rfl rfl ?_
        refine jr_wicmp_gt 33 ok rfl rfl d_Gr_moveLeader_18 (by decide) (fun c10 => ?_) (fun c10 => ?_)
        · replace hs := oq_pos c10 hs
          exact jm_vret (Lf := wtL D g A c) ok fin hs d_Gr_moveLeader_33
        · replace hs := oq_neg c10 hs
          refine jr_aload_n ok 0 d_Gr_moveLeader_21 rfl rfl ?_
          refine jr_get (v := .ref (g 16)) ok 15 f_Gr_21 rfl rfl d_Gr_moveLeader_22 ?_
          refine jr_iload_n ok 2 d_Gr_moveLeader_25 rfl rfl ?_
          refine jr_aload_n ok 0 d_Gr_moveLeader_26 rfl rfl ?_
          refine jr_get (v := .ref (g 16)) ok 15 f_Gr_21 rfl rfl d_Gr_moveLeader_27 ?_
          refine jr_iload_n ok 1 d_Gr_moveLeader_30 rfl rfl ?_
          obtain ⟨hb11, hs⟩ := oq_if hs
          refine jr_iald ok 19 rfl rfl hb11.1 hb11.2 d_Gr_moveLeader_31 ?_
          obtain ⟨hb12, hs⟩ := oq_if hs
          refine jr_iast (wtL D g A c (WS.w_gr_leaders S (aU S.gr_leaders v2 (S.gr_leaders v1)))) ok 19 rfl rfl hb12.1 hb12.2  rfl d_Gr_moveLeader_32 ?_
          exact jm_vret (Lf := wtL D g A c) ok fin hs d_Gr_moveLeader_33

def s_St_size (c : CW) (S : WS)  : Option (Int × WS) := some ((c.N : Int), S)
set_option maxHeartbeats 4000000 in
set_option maxRecDepth 100000 in
theorem r_St_size (l : Launch) (D : jd_T) (g : Nat → Nat) (A : AW) (c : CW) (S : WS)  (r : Int) (S9 : WS)  (hs : s_St_size c S  = some (r, S9)) : jc_C l D y_St_size b_St_size 1 (some .int) { frames := 0, cells := 0, slots := 0, locals := 0 } [.ref (g 2)] (wtL D g A c S) (fun _ : Unit => (.returned (some (.int (ii r))), True, wtL D g A c S9)) := by
  refine jc_of rfl (Nat.le_of_ble_eq_true rfl) ?_
  intro X hl hR hN ok hnm fin
  subst hl
  show jw X 0 0 (wtL D g A c S) [(0, .ref (g 2))] 0 []
  rw [s_St_size] at hs
  refine jr_aload_n ok 0 d_St_size_0 rfl rfl ?_
  refine jr_get (v := .int (ii (c.N : Int))) ok 3 f_St_17 rfl rfl d_St_size_1 ?_
  exact jm_iret (Lf := wtL D g A c) ok fin hs d_St_size_4

def s_LR_isWordByte (v0 : Int) : Option (Int) := if w32 v0 < 33 then some 0 else if w32 v0 ≤ 126 then if w32 v0 = 34 then some 0 else if w32 v0 = 61 then some 0 else if w32 v0 = 44 then some 0 else if w32 v0 = 40 then some 0 else if w32 v0 = 41 then some 0 else if w32 v0 = 123 then some 0 else if w32 v0 = 125 then some 0 else some 1 else some 0
set_option maxHeartbeats 4000000 in
set_option maxRecDepth 100000 in
theorem r_LR_isWordByte (l : Launch) (D : jd_T) (v0 : Int) (r : Int) (hs : s_LR_isWordByte v0 = some r) : jc_C l D y_LR_isWordByte b_LR_isWordByte 1 (some .boolean) { frames := 0, cells := 0, slots := 0, locals := 0 } [.int (ii v0)] [] (fun _ : Unit => (.returned (some (.int (ii r))), True, [])) := by
  refine jc_of rfl (Nat.le_of_ble_eq_true rfl) ?_
  intro X hl hR hN ok hnm fin
  subst hl
  show jw X 0 0 [] [(0, .int (ii v0))] 0 []
  rw [s_LR_isWordByte] at hs
  refine jr_iload_n ok 0 d_LR_isWordByte_0 rfl rfl ?_
  refine jr_bipush ok d_LR_isWordByte_1 (by decide +kernel) ?_
  refine jr_wicmp_lt 12 ok rfl (show w32 33 = 33 by decide) d_LR_isWordByte_3 (by decide) (fun c10 => ?_) (fun c10 => ?_)
  · replace hs := oq_pos c10 hs
    refine jr_iconst ok d_LR_isWordByte_12 ?_
    exact jm_zrets ok (by decide +kernel) fin hs d_LR_isWordByte_13
  · replace hs := oq_neg c10 hs
    refine jr_iload_n ok 0 d_LR_isWordByte_6 rfl rfl ?_
    refine jr_bipush ok d_LR_isWordByte_7 (by decide +kernel) ?_
    refine jr_wicmp_le 14 ok rfl (show w32 126 = 126 by decide) d_LR_isWordByte_9 (by decide) (fun c11 => ?_) (fun c11 => ?_)
    · replace hs := oq_pos c11 hs
      refine jr_iload_n ok 0 d_LR_isWordByte_14 rfl rfl ?_
      refine jr_bipush ok d_LR_isWordByte_15 (by decide +kernel) ?_
      refine jr_wicmp_eq 60 ok rfl (show w32 34 = 34 by decide) d_LR_isWordByte_17 (by decide) (fun c12 => ?_) (fun c12 => ?_)
      · replace hs := oq_pos c12 hs
        refine jr_iconst ok d_LR_isWordByte_60 ?_
        exact jm_zrets ok (by decide +kernel) fin hs d_LR_isWordByte_61
      · replace hs := oq_neg c12 hs
        refine jr_iload_n ok 0 d_LR_isWordByte_20 rfl rfl ?_
        refine jr_bipush ok d_LR_isWordByte_21 (by decide +kernel) ?_
        refine jr_wicmp_eq 60 ok rfl (show w32 61 = 61 by decide) d_LR_isWordByte_23 (by decide) (fun c13 => ?_) (fun c13 => ?_)
        · replace hs := oq_pos c13 hs
          refine jr_iconst ok d_LR_isWordByte_60 ?_
          exact jm_zrets ok (by decide +kernel) fin hs d_LR_isWordByte_61
        · replace hs := oq_neg c13 hs
          refine jr_iload_n ok 0 d_LR_isWordByte_26 rfl rfl ?_
          refine jr_bipush ok d_LR_isWordByte_27 (by decide +kernel) ?_
          refine jr_wicmp_eq 60 ok rfl (show w32 44 = 44 by decide) d_LR_isWordByte_29 (by decide) (fun c14 => ?_) (fun c14 => ?_)
          · replace hs := oq_pos c14 hs
            refine jr_iconst ok d_LR_isWordByte_60 ?_
            exact jm_zrets ok (by decide +kernel) fin hs d_LR_isWordByte_61
          · replace hs := oq_neg c14 hs
            refine jr_iload_n ok 0 d_LR_isWordByte_32 rfl rfl ?_
            refine jr_bipush ok d_LR_isWordByte_33 (by decide +kernel) ?_
            refine jr_wicmp_eq 60 ok rfl (show w32 40 = 40 by decide) d_LR_isWordByte_35 (by decide) (fun c15 => ?_) (fun c15 => ?_)
            · replace hs := oq_pos c15 hs
              refine jr_iconst ok d_LR_isWordByte_60 ?_
              exact jm_zrets ok (by decide +kernel) fin hs d_LR_isWordByte_61
            · replace hs := oq_neg c15 hs
              refine jr_iload_n ok 0 d_LR_isWordByte_38 rfl rfl ?_
              refine jr_bipush ok d_LR_isWordByte_39 (by decide +kernel) ?_
              refine jr_wicmp_eq 60 ok rfl (show w32 41 = 41 by decide) d_LR_isWordByte_41 (by decide) (fun c16 => ?_) (fun c16 => ?_)
              · replace hs := oq_pos c16 hs
                refine jr_iconst ok d_LR_isWordByte_60 ?_
                exact jm_zrets ok (by decide +kernel) fin hs d_LR_isWordByte_61
              · replace hs := oq_neg c16 hs
                refine jr_iload_n ok 0 d_LR_isWordByte_44 rfl rfl ?_
                refine jr_bipush ok d_LR_isWordByte_45 (by decide +kernel) ?_
                refine jr_wicmp_eq 60 ok rfl (show w32 123 = 123 by decide) d_LR_isWordByte_47 (by decide) (fun c17 => ?_) (fun c17 => ?_)
                · replace hs := oq_pos c17 hs
                  refine jr_iconst ok d_LR_isWordByte_60 ?_
                  exact jm_zrets ok (by decide +kernel) fin hs d_LR_isWordByte_61
                · replace hs := oq_neg c17 hs
                  refine jr_iload_n ok 0 d_LR_isWordByte_50 rfl rfl ?_
                  refine jr_bipush ok d_LR_isWordByte_51 (by decide +kernel) ?_
                  refine jr_wicmp_eq 60 ok rfl (show w32 125 = 125 by decide) d_LR_isWordByte_53 (by decide) (fun c18 => ?_) (fun c18 => ?_)
                  · replace hs := oq_pos c18 hs
                    refine jr_iconst ok d_LR_isWordByte_60 ?_
                    exact jm_zrets ok (by decide +kernel) fin hs d_LR_isWordByte_61
                  · replace hs := oq_neg c18 hs
                    refine jr_iconst ok d_LR_isWordByte_56 ?_
                    refine jr_goto 61 ok d_LR_isWordByte_57 (by decide) ?_
                    exact jm_zrets ok (by decide +kernel) fin hs d_LR_isWordByte_61
    · replace hs := oq_neg c11 hs
      refine jr_iconst ok d_LR_isWordByte_12 ?_
      exact jm_zrets ok (by decide +kernel) fin hs d_LR_isWordByte_13

def s_Pg_countUp (c : CW) (S : WS) (v1 : Int) : Option (Unit × WS) := if w32 v1 < 0 then some ((), S) else if w32 S.pg_size ≤ w32 v1 then some ((), S) else if (0 : Int) ≤ v1 ∧ v1 < (c.oc : Int) then if (0 : Int) ≤ v1 ∧ v1 < (c.oc : Int) then some ((), WS.w_pg_orders S (aU S.pg_orders v1 ((S.pg_orders v1) + 1))) else none else none
set_option maxHeartbeats 4000000 in
set_option maxRecDepth 100000 in
theorem r_Pg_countUp (l : Launch) (D : jd_T) (g : Nat → Nat) (A : AW) (c : CW) (S : WS) (v1 : Int) (r : Unit) (S9 : WS)  (hs : s_Pg_countUp c S v1 = some (r, S9)) : jc_C l D y_Pg_countUp b_Pg_countUp 2 none { frames := 0, cells := 0, slots := 0, locals := 0 } [.ref (g 9), .int (ii v1)] (wtL D g A c S) (fun _ : Unit => (.returned (none), True, wtL D g A c S9)) := by
  refine jc_of rfl (Nat.le_of_ble_eq_true rfl) ?_
  intro X hl hR hN ok hnm fin
  subst hl
  show jw X 0 0 (wtL D g A c S) [(0, .ref (g 9)), (1, .int (ii v1))] 0 []
  rw [s_Pg_countUp] at hs
  refine jr_iload_n ok 1 d_Pg_countUp_0 rfl rfl ?_
  refine jr_wif_lt 22 ok rfl d_Pg_countUp_1 (by decide) (fun c5 => ?_) (fun c5 => ?_)
  · replace hs := oq_pos c5 hs
    exact jm_vret (Lf := wtL D g A c) ok fin hs d_Pg_countUp_22
  · replace hs := oq_neg c5 hs
    refine jr_iload_n ok 1 d_Pg_countUp_4 rfl rfl ?_
    refine jr_aload_n ok 0 d_Pg_countUp_5 rfl rfl ?_
    refine jr_get (v := .int (ii S.pg_size)) ok 11 f_Pg_15 rfl rfl d_Pg_countUp_6 ?_
    refine jr_wicmp_ge 22 ok rfl rfl d_Pg_countUp_9 (by decide) (fun c6 => ?_) (fun c6 => ?_)
    · replace hs := oq_pos c6 hs
      exact jm_vret (Lf := wtL D g A c) ok fin hs d_Pg_countUp_22
    · replace hs := oq_neg c6 hs
      refine jr_aload_n ok 0 d_Pg_countUp_12 rfl rfl ?_
      refine jr_get (v := .ref A.oa) ok 11 f_Pg_9 rfl rfl d_Pg_countUp_13 ?_
      refine jr_iload_n ok 1 d_Pg_countUp_16 rfl rfl ?_
      refine jr_dup2 rfl rfl ok d_Pg_countUp_17 ?_
      obtain ⟨hb7, hs⟩ := oq_if hs
      refine jr_iald ok 12 rfl rfl hb7.1 hb7.2 d_Pg_countUp_18 ?_
      refine jr_iconst ok d_Pg_countUp_19 ?_
      refine jr_iadd ok d_Pg_countUp_20 ?_
      obtain ⟨hb8, hs⟩ := oq_if hs
      refine jr_iast (wtL D g A c (WS.w_pg_orders S (aU S.pg_orders v1 ((S.pg_orders v1) + 1)))) ok 12 rfl rfl hb8.1 hb8.2  rfl d_Pg_countUp_21 ?_
      exact jm_vret (Lf := wtL D g A c) ok fin hs d_Pg_countUp_22

def s_QR_faultCode (c : CW) (S : WS)  : Option (Int × WS) := some (S.qr_faultCode, S)
set_option maxHeartbeats 4000000 in
set_option maxRecDepth 100000 in
theorem r_QR_faultCode (l : Launch) (D : jd_T) (g : Nat → Nat) (A : AW) (c : CW) (S : WS)  (r : Int) (S9 : WS)  (hs : s_QR_faultCode c S  = some (r, S9)) : jc_C l D y_QR_faultCode b_QR_faultCode 1 (some .int) { frames := 0, cells := 0, slots := 0, locals := 0 } [.ref (g 10)] (wtL D g A c S) (fun _ : Unit => (.returned (some (.int (ii r))), True, wtL D g A c S9)) := by
  refine jc_of rfl (Nat.le_of_ble_eq_true rfl) ?_
  intro X hl hR hN ok hnm fin
  subst hl
  show jw X 0 0 (wtL D g A c S) [(0, .ref (g 10))] 0 []
  rw [s_QR_faultCode] at hs
  refine jr_aload_n ok 0 d_QR_faultCode_0 rfl rfl ?_
  refine jr_get (v := .int (ii S.qr_faultCode)) ok 13 f_QR_28 rfl rfl d_QR_faultCode_1 ?_
  exact jm_iret (Lf := wtL D g A c) ok fin hs d_QR_faultCode_4

def s_QR_naming (c : CW) (S : WS)  : Option (Int × WS) := some (S.qr_naming, S)
set_option maxHeartbeats 4000000 in
set_option maxRecDepth 100000 in
theorem r_QR_naming (l : Launch) (D : jd_T) (g : Nat → Nat) (A : AW) (c : CW) (S : WS)  (r : Int) (S9 : WS)  (hs : s_QR_naming c S  = some (r, S9)) : jc_C l D y_QR_naming b_QR_naming 1 (some .int) { frames := 0, cells := 0, slots := 0, locals := 0 } [.ref (g 10)] (wtL D g A c S) (fun _ : Unit => (.returned (some (.int (ii r))), True, wtL D g A c S9)) := by
  refine jc_of rfl (Nat.le_of_ble_eq_true rfl) ?_
  intro X hl hR hN ok hnm fin
  subst hl
  show jw X 0 0 (wtL D g A c S) [(0, .ref (g 10))] 0 []
  rw [s_QR_naming] at hs
  refine jr_aload_n ok 0 d_QR_naming_0 rfl rfl ?_
  refine jr_get (v := .int (ii S.qr_naming)) ok 13 f_QR_35 rfl rfl d_QR_naming_1 ?_
  exact jm_iret (Lf := wtL D g A c) ok fin hs d_QR_naming_4

def s_St_isFull (c : CW) (S : WS)  : Option (Int × WS) := if w32 (c.N : Int) < 256 then some (0, S) else some (1, S)
set_option maxHeartbeats 4000000 in
set_option maxRecDepth 100000 in
theorem r_St_isFull (l : Launch) (D : jd_T) (g : Nat → Nat) (A : AW) (c : CW) (S : WS)  (r : Int) (S9 : WS)  (hs : s_St_isFull c S  = some (r, S9)) : jc_C l D y_St_isFull b_St_isFull 1 (some .boolean) { frames := 0, cells := 0, slots := 0, locals := 0 } [.ref (g 2)] (wtL D g A c S) (fun _ : Unit => (.returned (some (.int (ii r))), True, wtL D g A c S9)) := by
  refine jc_of rfl (Nat.le_of_ble_eq_true rfl) ?_
  intro X hl hR hN ok hnm fin
  subst hl
  show jw X 0 0 (wtL D g A c S) [(0, .ref (g 2))] 0 []
  rw [s_St_isFull] at hs
  refine jr_aload_n ok 0 d_St_isFull_0 rfl rfl ?_
  refine jr_get (v := .int (ii (c.N : Int))) ok 3 f_St_17 rfl rfl d_St_isFull_1 ?_
  refine jr_aload_n ok 0 d_St_isFull_4 rfl rfl ?_
  refine jr_get (v := .ref (g 3)) ok 3 f_St_11 rfl rfl d_St_isFull_5 ?_
  refine jr_alen_q ok 4 rfl rfl d_St_isFull_8 ?_
  refine jr_wicmp_lt 16 ok rfl (show w32 256 = 256 by decide) d_St_isFull_9 (by decide) (fun c2 => ?_) (fun c2 => ?_)
  · replace hs := oq_pos c2 hs
    refine jr_iconst ok d_St_isFull_16 ?_
    exact jm_zret (Lf := wtL D g A c) ok (by decide +kernel) fin hs d_St_isFull_17
  · replace hs := oq_neg c2 hs
    refine jr_iconst ok d_St_isFull_12 ?_
    refine jr_goto 17 ok d_St_isFull_13 (by decide) ?_
    exact jm_zret (Lf := wtL D g A c) ok (by decide +kernel) fin hs d_St_isFull_17

def s_St_isTime (c : CW) (S : WS) (v1 : Int64) : Option (Int × WS) := if v1.toInt < 0 then some (0, S) else if 1099511627775 < v1.toInt then some (0, S) else some (1, S)
set_option maxHeartbeats 4000000 in
set_option maxRecDepth 100000 in
theorem r_St_isTime (l : Launch) (D : jd_T) (g : Nat → Nat) (A : AW) (c : CW) (S : WS) (v1 : Int64) (r : Int) (S9 : WS)  (hs : s_St_isTime c S v1 = some (r, S9)) : jc_C l D y_St_isTime b_St_isTime 3 (some .boolean) { frames := 0, cells := 0, slots := 0, locals := 0 } [.ref (g 2), .long v1] (wtL D g A c S) (fun _ : Unit => (.returned (some (.int (ii r))), True, wtL D g A c S9)) := by
  refine jc_of rfl (Nat.le_of_ble_eq_true rfl) ?_
  intro X hl hR hN ok hnm fin
  subst hl
  show jw X 0 0 (wtL D g A c S) [(0, .ref (g 2)), (1, .long v1)] 0 []
  rw [s_St_isTime] at hs
  refine jr_lload_n ok 1 d_St_isTime_0 rfl rfl ?_
  refine jr_lconst (z := 0) ok d_St_isTime_1 (by decide +kernel) ?_
  refine jr_lif_lt 18 ok rfl (ll_toInt ⟨by decide, by decide⟩) d_St_isTime_2 d_St_isTime_3 (by decide) (fun c3 => ?_) (fun c3 => ?_)
  · replace hs := oq_pos c3 hs
    refine jr_iconst ok d_St_isTime_18 ?_
    exact jm_zret (Lf := wtL D g A c) ok (by decide +kernel) fin hs d_St_isTime_19
  · replace hs := oq_neg c3 hs
    refine jr_lload_n ok 1 d_St_isTime_6 rfl rfl ?_
    refine jr_ldc2 (z := 1099511627775) ok w_637 (by decide +kernel) d_St_isTime_7 ?_
    refine jr_lif_gt 18 ok rfl (ll_toInt ⟨by decide, by decide⟩) d_St_isTime_10 d_St_isTime_11 (by decide) (fun c4 => ?_) (fun c4 => ?_)
    · replace hs := oq_pos c4 hs
      refine jr_iconst ok d_St_isTime_18 ?_
      exact jm_zret (Lf := wtL D g A c) ok (by decide +kernel) fin hs d_St_isTime_19
    · replace hs := oq_neg c4 hs
      refine jr_iconst ok d_St_isTime_14 ?_
      refine jr_goto 19 ok d_St_isTime_15 (by decide) ?_
      exact jm_zret (Lf := wtL D g A c) ok (by decide +kernel) fin hs d_St_isTime_19

def s_Gd_put (c : CW) (S : WS) (v0 : Nat) (v1 : Int) (v2 : Int64) : Option (Unit × WS) := if w32 v1 < 0 then some ((), S) else if w32 (c.gc v0) ≤ w32 v1 then some ((), S) else if w32 (c.gd v0) ≤ w32 v1 then some ((), S) else if (0 : Int) ≤ v1 ∧ v1 < (c.gc v0 : Int) then if (0 : Int) ≤ v1 ∧ v1 < (c.gd v0 : Int) then some ((), WS.w_gd_there (WS.w_gd_numbers S (nU S.gd_numbers v0 (aU (S.gd_numbers v0) v1 v2))) (nU S.gd_there v0 (aU (S.gd_there v0) v1 1))) else none else none
set_option maxHeartbeats 4000000 in
set_option maxRecDepth 100000 in
theorem r_Gd_put (l : Launch) (D : jd_T) (g : Nat → Nat) (A : AW) (c : CW) (S : WS) (v0 : Nat) (v1 : Int) (v2 : Int64) (r : Unit) (S9 : WS) (hv0 : v0 < 19) (hs : s_Gd_put c S v0 v1 v2 = some (r, S9)) : jc_C l D y_Gd_put b_Gd_put 4 none { frames := 0, cells := 0, slots := 0, locals := 0 } [.ref (g (19 + v0)), .int (ii v1), .long v2] (wtL D g A c S) (fun _ : Unit => (.returned (none), True, wtL D g A c S9)) := by
  refine jc_of rfl (Nat.le_of_ble_eq_true rfl) ?_
  intro X hl hR hN ok hnm fin
  subst hl
  show jw X 0 0 (wtL D g A c S) [(0, .ref (g (19 + v0))), (1, .int (ii v1)), (2, .long v2)] 0 []
  rw [s_Gd_put] at hs
  refine jr_iload_n ok 1 d_Gd_put_0 rfl rfl ?_
  refine jr_wif_lt 36 ok rfl d_Gd_put_1 (by decide) (fun c6 => ?_) (fun c6 => ?_)
  · replace hs := oq_pos c6 hs
    exact jm_vret (Lf := wtL D g A c) ok fin hs d_Gd_put_36
  · replace hs := oq_neg c6 hs
    refine jr_iload_n ok 1 d_Gd_put_4 rfl rfl ?_
    refine jr_aload_n ok 0 d_Gd_put_5 rfl rfl ?_
    refine jq_get (v := .ref (A.gn v0)) ok f_Gd_9 (sg_atp (F := grdW D g A c S) 23 rfl hv0 0 rfl) rfl d_Gd_put_6 ?_
    refine jq_alen_l ok (sg_atp (F := grdW D g A c S) 23 rfl hv0 1 rfl) rfl d_Gd_put_9 ?_
    refine jr_wicmp_ge 36 ok rfl rfl d_Gd_put_10 (by decide) (fun c7 => ?_) (fun c7 => ?_)
    · replace hs := oq_pos c7 hs
      exact jm_vret (Lf := wtL D g A c) ok fin hs d_Gd_put_36
    · replace hs := oq_neg c7 hs
      refine jr_iload_n ok 1 d_Gd_put_13 rfl rfl ?_
      refine jr_aload_n ok 0 d_Gd_put_14 rfl rfl ?_
      refine jq_get (v := .ref (A.gt v0)) ok f_Gd_15 (sg_atp (F := grdW D g A c S) 23 rfl hv0 0 rfl) rfl d_Gd_put_15 ?_
      refine jq_alen_i ok (sg_atp (F := grdW D g A c S) 23 rfl hv0 2 rfl) rfl d_Gd_put_18 ?_
      refine jr_wicmp_ge 36 ok rfl rfl d_Gd_put_19 (by decide) (fun c8 => ?_) (fun c8 => ?_)
      · replace hs := oq_pos c8 hs
        exact jm_vret (Lf := wtL D g A c) ok fin hs d_Gd_put_36
      · replace hs := oq_neg c8 hs
        refine jr_aload_n ok 0 d_Gd_put_22 rfl rfl ?_
        refine jq_get (v := .ref (A.gn v0)) ok f_Gd_9 (sg_atp (F := grdW D g A c S) 23 rfl hv0 0 rfl) rfl d_Gd_put_23 ?_
        refine jr_iload_n ok 1 d_Gd_put_26 rfl rfl ?_
        refine jr_lload_n ok 2 d_Gd_put_27 rfl rfl ?_
        obtain ⟨hb9, hs⟩ := oq_if hs
        refine jq_last (wtL D g A c (WS.w_gd_numbers S (nU S.gd_numbers v0 (aU (S.gd_numbers v0) v1 v2)))) ok (sg_atp (F := grdW D g A c S) 23 rfl hv0 1 rfl) rfl hb9.1 hb9.2  ⟨grdW D g A c (WS.w_gd_numbers S (nU S.gd_numbers v0 (aU (S.gd_numbers v0) v1 v2))), fun j hj => by simp only [grdW, nU, if_neg hj, WS.w_gd_numbers, WS.gd_numbers, WS.gd_there, WS.gd_lines, WS.gd_windows, WS.gd_named], by simp [grdW, nU, WS.w_gd_numbers, WS.gd_numbers, WS.gd_there, WS.gd_lines, WS.gd_windows, WS.gd_named] <;> rfl, rfl⟩ d_Gd_put_28 ?_
        refine jr_aload_n ok 0 d_Gd_put_29 rfl rfl ?_
        refine jq_get (v := .ref (A.gt v0)) ok f_Gd_15 (sg_atp (F := grdW D g A c (WS.w_gd_numbers S (nU S.gd_numbers v0 (aU (S.gd_numbers v0) v1 v2)))) 23 rfl hv0 0 rfl) rfl d_Gd_put_30 ?_
        refine jr_iload_n ok 1 d_Gd_put_33 rfl rfl ?_
        refine jr_iconst ok d_Gd_put_34 ?_
        obtain ⟨hb10, hs⟩ := oq_if hs
        refine jq_zast (wtL D g A c (WS.w_gd_there (WS.w_gd_numbers S (nU S.gd_numbers v0 (aU (S.gd_numbers v0) v1 v2))) (nU S.gd_there v0 (aU (S.gd_there v0) v1 1)))) ok (sg_atp (F := grdW D g A c (WS.w_gd_numbers S (nU S.gd_numbers v0 (aU (S.gd_numbers v0) v1 v2)))) 23 rfl hv0 2 rfl) rfl hb10.1 hb10.2 (by decide +kernel) ⟨grdW D g A c (WS.w_gd_there (WS.w_gd_numbers S (nU S.gd_numbers v0 (aU (S.gd_numbers v0) v1 v2))) (nU S.gd_there v0 (aU (S.gd_there v0) v1 1))), fun j hj => by simp only [grdW, nU, if_neg hj, WS.w_gd_numbers, WS.w_gd_there, WS.gd_numbers, WS.gd_there, WS.gd_lines, WS.gd_windows, WS.gd_named], by simp [grdW, nU, WS.w_gd_numbers, WS.w_gd_there, WS.gd_numbers, WS.gd_there, WS.gd_lines, WS.gd_windows, WS.gd_named] <;> rfl, rfl⟩ d_Gd_put_35 ?_
        exact jm_vret (Lf := wtL D g A c) ok fin hs d_Gd_put_36

def s_Gd_windows (c : CW) (S : WS) (v0 : Nat) : Option (Int × WS) := some (S.gd_windows v0, S)
set_option maxHeartbeats 4000000 in
set_option maxRecDepth 100000 in
theorem r_Gd_windows (l : Launch) (D : jd_T) (g : Nat → Nat) (A : AW) (c : CW) (S : WS) (v0 : Nat) (r : Int) (S9 : WS) (hv0 : v0 < 19) (hs : s_Gd_windows c S v0 = some (r, S9)) : jc_C l D y_Gd_windows b_Gd_windows 1 (some .int) { frames := 0, cells := 0, slots := 0, locals := 0 } [.ref (g (19 + v0))] (wtL D g A c S) (fun _ : Unit => (.returned (some (.int (ii r))), True, wtL D g A c S9)) := by
  refine jc_of rfl (Nat.le_of_ble_eq_true rfl) ?_
  intro X hl hR hN ok hnm fin
  subst hl
  show jw X 0 0 (wtL D g A c S) [(0, .ref (g (19 + v0)))] 0 []
  rw [s_Gd_windows] at hs
  refine jr_aload_n ok 0 d_Gd_windows_0 rfl rfl ?_
  refine jq_get (v := .int (ii (S.gd_windows v0))) ok f_Gd_23 (sg_atp (F := grdW D g A c S) 23 rfl hv0 0 rfl) rfl d_Gd_windows_1 ?_
  exact jm_iret (Lf := wtL D g A c) ok fin hs d_Gd_windows_4

def s_Gr_labelOf (c : CW) (S : WS) (v1 : Int) (v2 : Int) : Option (Int × WS) := if w32 v1 < 0 then some (-1, S) else if 256 ≤ w32 v1 then some (-1, S) else if w32 v2 < 0 then some (-1, S) else if w32 S.gr_nameCount ≤ w32 v2 then some (-1, S) else if (0 : Int) ≤ ((v1 * 6) + v2) ∧ ((v1 * 6) + v2) < (1536 : Int) then some (S.gr_labels ((v1 * 6) + v2), S) else none
set_option maxHeartbeats 4000000 in
set_option maxRecDepth 100000 in
theorem r_Gr_labelOf (l : Launch) (D : jd_T) (g : Nat → Nat) (A : AW) (c : CW) (S : WS) (v1 : Int) (v2 : Int) (r : Int) (S9 : WS)  (hs : s_Gr_labelOf c S v1 v2 = some (r, S9)) : jc_C l D y_Gr_labelOf b_Gr_labelOf 3 (some .int) { frames := 0, cells := 0, slots := 0, locals := 0 } [.ref (g 12), .int (ii v1), .int (ii v2)] (wtL D g A c S) (fun _ : Unit => (.returned (some (.int (ii r))), True, wtL D g A c S9)) := by
  refine jc_of rfl (Nat.le_of_ble_eq_true rfl) ?_
  intro X hl hR hN ok hnm fin
  subst hl
  show jw X 0 0 (wtL D g A c S) [(0, .ref (g 12)), (1, .int (ii v1)), (2, .int (ii v2))] 0 []
  rw [s_Gr_labelOf] at hs
  refine jr_iload_n ok 1 d_Gr_labelOf_0 rfl rfl ?_
  refine jr_wif_lt 37 ok rfl d_Gr_labelOf_1 (by decide) (fun c6 => ?_) (fun c6 => ?_)
  · replace hs := oq_pos c6 hs
    refine jr_iconst ok d_Gr_labelOf_37 ?_
    exact jm_iret (Lf := wtL D g A c) ok fin hs d_Gr_labelOf_38
  · replace hs := oq_neg c6 hs
    refine jr_iload_n ok 1 d_Gr_labelOf_4 rfl rfl ?_
    refine jr_sipush ok d_Gr_labelOf_5 (by decide +kernel) ?_
    refine jr_wicmp_ge 37 ok rfl (show w32 256 = 256 by decide) d_Gr_labelOf_8 (by decide) (fun c7 => ?_) (fun c7 => ?_)
    · replace hs := oq_pos c7 hs
      refine jr_iconst ok d_Gr_labelOf_37 ?_
      exact jm_iret (Lf := wtL D g A c) ok fin hs d_Gr_labelOf_38
    · replace hs := oq_neg c7 hs
      refine jr_iload_n ok 2 d_Gr_labelOf_11 rfl rfl ?_
      refine jr_wif_lt 37 ok rfl d_Gr_labelOf_12 (by decide) (fun c8 => ?_) (fun c8 => ?_)
      · replace hs := oq_pos c8 hs
        refine jr_iconst ok d_Gr_labelOf_37 ?_
        exact jm_iret (Lf := wtL D g A c) ok fin hs d_Gr_labelOf_38
      · replace hs := oq_neg c8 hs
        refine jr_iload_n ok 2 d_Gr_labelOf_15 rfl rfl ?_
        refine jr_aload_n ok 0 d_Gr_labelOf_16 rfl rfl ?_
        refine jr_get (v := .int (ii S.gr_nameCount)) ok 15 f_Gr_36 rfl rfl d_Gr_labelOf_17 ?_
        refine jr_wicmp_ge 37 ok rfl rfl d_Gr_labelOf_20 (by decide) (fun c9 => ?_) (fun c9 => ?_)
        · replace hs := oq_pos c9 hs
          refine jr_iconst ok d_Gr_labelOf_37 ?_
          exact jm_iret (Lf := wtL D g A c) ok fin hs d_Gr_labelOf_38
        · replace hs := oq_neg c9 hs
          refine jr_aload_n ok 0 d_Gr_labelOf_23 rfl rfl ?_
          refine jr_get (v := .ref (g 13)) ok 15 f_Gr_9 rfl rfl d_Gr_labelOf_24 ?_
          refine jr_iload_n ok 1 d_Gr_labelOf_27 rfl rfl ?_
          refine jr_bipush ok d_Gr_labelOf_28 (by decide +kernel) ?_
          refine jr_imul ok d_Gr_labelOf_30 ?_
          refine jr_iload_n ok 2 d_Gr_labelOf_31 rfl rfl ?_
          refine jr_iadd ok d_Gr_labelOf_32 ?_
          obtain ⟨hb10, hs⟩ := oq_if hs
          refine jr_iald ok 16 rfl rfl hb10.1 hb10.2 d_Gr_labelOf_33 ?_
          refine jr_goto 38 ok d_Gr_labelOf_34 (by decide) ?_
          exact jm_iret (Lf := wtL D g A c) ok fin hs d_Gr_labelOf_38

def s_LR_letterAt (c : CW) (S : WS) (v1 : Int) : Option (Int × WS) := if w32 v1 < 0 then some (-1, S) else if w32 S.lr_length ≤ w32 v1 then some (-1, S) else if (0 : Int) ≤ v1 ∧ v1 < (300 : Int) then some (S.lr_letters v1, S) else none
set_option maxHeartbeats 4000000 in
set_option maxRecDepth 100000 in
theorem r_LR_letterAt (l : Launch) (D : jd_T) (g : Nat → Nat) (A : AW) (c : CW) (S : WS) (v1 : Int) (r : Int) (S9 : WS)  (hs : s_LR_letterAt c S v1 = some (r, S9)) : jc_C l D y_LR_letterAt b_LR_letterAt 2 (some .int) { frames := 0, cells := 0, slots := 0, locals := 0 } [.ref (g 4), .int (ii v1)] (wtL D g A c S) (fun _ : Unit => (.returned (some (.int (ii r))), True, wtL D g A c S9)) := by
  refine jc_of rfl (Nat.le_of_ble_eq_true rfl) ?_
  intro X hl hR hN ok hnm fin
  subst hl
  show jw X 0 0 (wtL D g A c S) [(0, .ref (g 4)), (1, .int (ii v1))] 0 []
  rw [s_LR_letterAt] at hs
  refine jr_iload_n ok 1 d_LR_letterAt_0 rfl rfl ?_
  refine jr_wif_lt 21 ok rfl d_LR_letterAt_1 (by decide) (fun c4 => ?_) (fun c4 => ?_)
  · replace hs := oq_pos c4 hs
    refine jr_iconst ok d_LR_letterAt_21 ?_
    exact jm_iret (Lf := wtL D g A c) ok fin hs d_LR_letterAt_22
  · replace hs := oq_neg c4 hs
    refine jr_iload_n ok 1 d_LR_letterAt_4 rfl rfl ?_
    refine jr_aload_n ok 0 d_LR_letterAt_5 rfl rfl ?_
    refine jr_get (v := .int (ii S.lr_length)) ok 6 f_LR_32 rfl rfl d_LR_letterAt_6 ?_
    refine jr_wicmp_ge 21 ok rfl rfl d_LR_letterAt_9 (by decide) (fun c5 => ?_) (fun c5 => ?_)
    · replace hs := oq_pos c5 hs
      refine jr_iconst ok d_LR_letterAt_21 ?_
      exact jm_iret (Lf := wtL D g A c) ok fin hs d_LR_letterAt_22
    · replace hs := oq_neg c5 hs
      refine jr_aload_n ok 0 d_LR_letterAt_12 rfl rfl ?_
      refine jr_get (v := .ref (g 8)) ok 6 f_LR_21 rfl rfl d_LR_letterAt_13 ?_
      refine jr_iload_n ok 1 d_LR_letterAt_16 rfl rfl ?_
      obtain ⟨hb6, hs⟩ := oq_if hs
      refine jr_bald ok 10 rfl rfl hb6.1 hb6.2 d_LR_letterAt_17 ?_
      refine jr_goto 22 ok d_LR_letterAt_18 (by decide) ?_
      exact jm_iret (Lf := wtL D g A c) ok fin hs d_LR_letterAt_22

def s_LR_refuse (c : CW) (S : WS) (v1 : Int) (v2 : Int) : Option (Int × WS) := some (-1, WS.w_lr_faultPlace (WS.w_lr_faultCode S v1) v2)
set_option maxHeartbeats 4000000 in
set_option maxRecDepth 100000 in
theorem r_LR_refuse (l : Launch) (D : jd_T) (g : Nat → Nat) (A : AW) (c : CW) (S : WS) (v1 : Int) (v2 : Int) (r : Int) (S9 : WS)  (hs : s_LR_refuse c S v1 v2 = some (r, S9)) : jc_C l D y_LR_refuse b_LR_refuse 3 (some .int) { frames := 0, cells := 0, slots := 0, locals := 0 } [.ref (g 4), .int (ii v1), .int (ii v2)] (wtL D g A c S) (fun _ : Unit => (.returned (some (.int (ii r))), True, wtL D g A c S9)) := by
  refine jc_of rfl (Nat.le_of_ble_eq_true rfl) ?_
  intro X hl hR hN ok hnm fin
  subst hl
  show jw X 0 0 (wtL D g A c S) [(0, .ref (g 4)), (1, .int (ii v1)), (2, .int (ii v2))] 0 []
  rw [s_LR_refuse] at hs
  refine jr_aload_n ok 0 d_LR_refuse_0 rfl rfl ?_
  refine jr_iload_n ok 1 d_LR_refuse_1 rfl rfl ?_
  refine jr_put (wtL D g A c (WS.w_lr_faultCode S v1)) ok 6 f_LR_25 rfl rfl rfl (Nat.le_of_ble_eq_true rfl) rfl d_LR_refuse_2 ?_
  refine jr_aload_n ok 0 d_LR_refuse_5 rfl rfl ?_
  refine jr_iload_n ok 2 d_LR_refuse_6 rfl rfl ?_
  refine jr_put (wtL D g A c (WS.w_lr_faultPlace (WS.w_lr_faultCode S v1) v2)) ok 6 f_LR_29 rfl rfl rfl (Nat.le_of_ble_eq_true rfl) rfl d_LR_refuse_7 ?_
  refine jr_iconst ok d_LR_refuse_10 ?_
  exact jm_iret (Lf := wtL D g A c) ok fin hs d_LR_refuse_11

def s_Lx_at (c : CW) (S : WS)  : Option (Int × WS) := some (S.lx_at, S)
set_option maxHeartbeats 4000000 in
set_option maxRecDepth 100000 in
theorem r_Lx_at (l : Launch) (D : jd_T) (g : Nat → Nat) (A : AW) (c : CW) (S : WS)  (r : Int) (S9 : WS)  (hs : s_Lx_at c S  = some (r, S9)) : jc_C l D y_Lx_at b_Lx_at 1 (some .int) { frames := 0, cells := 0, slots := 0, locals := 0 } [.ref (g 11)] (wtL D g A c S) (fun _ : Unit => (.returned (some (.int (ii r))), True, wtL D g A c S9)) := by
  refine jc_of rfl (Nat.le_of_ble_eq_true rfl) ?_
  intro X hl hR hN ok hnm fin
  subst hl
  show jw X 0 0 (wtL D g A c S) [(0, .ref (g 11))] 0 []
  rw [s_Lx_at] at hs
  refine jr_aload_n ok 0 d_Lx_at_0 rfl rfl ?_
  refine jr_get (v := .int (ii S.lx_at)) ok 14 f_Lx_19 rfl rfl d_Lx_at_1 ?_
  exact jm_iret (Lf := wtL D g A c) ok fin hs d_Lx_at_4

def s_QR_faultPlace (c : CW) (S : WS)  : Option (Int × WS) := some (S.qr_faultPlace, S)
set_option maxHeartbeats 4000000 in
set_option maxRecDepth 100000 in
theorem r_QR_faultPlace (l : Launch) (D : jd_T) (g : Nat → Nat) (A : AW) (c : CW) (S : WS)  (r : Int) (S9 : WS)  (hs : s_QR_faultPlace c S  = some (r, S9)) : jc_C l D y_QR_faultPlace b_QR_faultPlace 1 (some .int) { frames := 0, cells := 0, slots := 0, locals := 0 } [.ref (g 10)] (wtL D g A c S) (fun _ : Unit => (.returned (some (.int (ii r))), True, wtL D g A c S9)) := by
  refine jc_of rfl (Nat.le_of_ble_eq_true rfl) ?_
  intro X hl hR hN ok hnm fin
  subst hl
  show jw X 0 0 (wtL D g A c S) [(0, .ref (g 10))] 0 []
  rw [s_QR_faultPlace] at hs
  refine jr_aload_n ok 0 d_QR_faultPlace_0 rfl rfl ?_
  refine jr_get (v := .int (ii S.qr_faultPlace)) ok 13 f_QR_32 rfl rfl d_QR_faultPlace_1 ?_
  exact jm_iret (Lf := wtL D g A c) ok fin hs d_QR_faultPlace_4

def q_QR_isProductSign_18  : Option (Int) := some 1

def s_QR_isProductSign (v0 : Int) : Option (Int) := if w32 v0 = 42 then q_QR_isProductSign_18  else if w32 v0 = 47 then q_QR_isProductSign_18  else if w32 v0 = 37 then q_QR_isProductSign_18  else some 0
set_option maxHeartbeats 4000000 in
set_option maxRecDepth 100000 in
theorem r_QR_isProductSign (l : Launch) (D : jd_T) (v0 : Int) (r : Int) (hs : s_QR_isProductSign v0 = some r) : jc_C l D y_QR_isProductSign b_QR_isProductSign 1 (some .boolean) { frames := 0, cells := 0, slots := 0, locals := 0 } [.int (ii v0)] [] (fun _ : Unit => (.returned (some (.int (ii r))), True, [])) := by
  refine jc_of rfl (Nat.le_of_ble_eq_true rfl) ?_
  intro X hl hR hN ok hnm fin
  subst hl
  have B_18 : q_QR_isProductSign_18  = some r → jw X 0 0 [] [] 18 [] := by
    intro hs
    rw [q_QR_isProductSign_18] at hs
    refine jr_iconst ok d_QR_isProductSign_18 ?_
    refine jr_goto 23 ok d_QR_isProductSign_19 (by decide) ?_
    exact jm_zrets ok (by decide +kernel) fin hs d_QR_isProductSign_23
  show jw X 0 0 [] [(0, .int (ii v0))] 0 []
  rw [s_QR_isProductSign] at hs
  refine jr_iload_n ok 0 d_QR_isProductSign_0 rfl rfl ?_
  refine jr_bipush ok d_QR_isProductSign_1 (by decide +kernel) ?_
  refine jr_wicmp_eq 18 ok rfl (show w32 42 = 42 by decide) d_QR_isProductSign_3 (by decide) (fun c4 => ?_) (fun c4 => ?_)
  · replace hs := oq_pos c4 hs
    exact jr_lv [] rfl (B_18 hs)
  · replace hs := oq_neg c4 hs
    refine jr_iload_n ok 0 d_QR_isProductSign_6 rfl rfl ?_
    refine jr_bipush ok d_QR_isProductSign_7 (by decide +kernel) ?_
    refine jr_wicmp_eq 18 ok rfl (show w32 47 = 47 by decide) d_QR_isProductSign_9 (by decide) (fun c5 => ?_) (fun c5 => ?_)
    · replace hs := oq_pos c5 hs
      exact jr_lv [] rfl (B_18 hs)
    · replace hs := oq_neg c5 hs
      refine jr_iload_n ok 0 d_QR_isProductSign_12 rfl rfl ?_
      refine jr_bipush ok d_QR_isProductSign_13 (by decide +kernel) ?_
      refine jr_wicmp_ne 22 ok rfl (show w32 37 = 37 by decide) d_QR_isProductSign_15 (by decide) (fun c6 => ?_) (fun c6 => ?_)
      · replace hs := oq_neg c6 hs
        refine jr_iconst ok d_QR_isProductSign_22 ?_
        exact jm_zrets ok (by decide +kernel) fin hs d_QR_isProductSign_23
      · replace hs := oq_pos c6 hs
        exact jr_lv [] rfl (B_18 hs)

def q_QR_isMatchSign_27  : Option (Int) := some 1

def s_QR_isMatchSign (v0 : Int) : Option (Int) := if w32 v0 = 61 then q_QR_isMatchSign_27  else if w32 v0 = 305 then q_QR_isMatchSign_27  else if w32 v0 = 306 then q_QR_isMatchSign_27  else if w32 v0 = 307 then q_QR_isMatchSign_27  else some 0
set_option maxHeartbeats 4000000 in
set_option maxRecDepth 100000 in
theorem r_QR_isMatchSign (l : Launch) (D : jd_T) (v0 : Int) (r : Int) (hs : s_QR_isMatchSign v0 = some r) : jc_C l D y_QR_isMatchSign b_QR_isMatchSign 1 (some .boolean) { frames := 0, cells := 0, slots := 0, locals := 0 } [.int (ii v0)] [] (fun _ : Unit => (.returned (some (.int (ii r))), True, [])) := by
  refine jc_of rfl (Nat.le_of_ble_eq_true rfl) ?_
  intro X hl hR hN ok hnm fin
  subst hl
  have B_27 : q_QR_isMatchSign_27  = some r → jw X 0 0 [] [] 27 [] := by
    intro hs
    rw [q_QR_isMatchSign_27] at hs
    refine jr_iconst ok d_QR_isMatchSign_27 ?_
    refine jr_goto 32 ok d_QR_isMatchSign_28 (by decide) ?_
    exact jm_zrets ok (by decide +kernel) fin hs d_QR_isMatchSign_32
  show jw X 0 0 [] [(0, .int (ii v0))] 0 []
  rw [s_QR_isMatchSign] at hs
  refine jr_iload_n ok 0 d_QR_isMatchSign_0 rfl rfl ?_
  refine jr_bipush ok d_QR_isMatchSign_1 (by decide +kernel) ?_
  refine jr_wicmp_eq 27 ok rfl (show w32 61 = 61 by decide) d_QR_isMatchSign_3 (by decide) (fun c5 => ?_) (fun c5 => ?_)
  · replace hs := oq_pos c5 hs
    exact jr_lv [] rfl (B_27 hs)
  · replace hs := oq_neg c5 hs
    refine jr_iload_n ok 0 d_QR_isMatchSign_6 rfl rfl ?_
    refine jr_sipush ok d_QR_isMatchSign_7 (by decide +kernel) ?_
    refine jr_wicmp_eq 27 ok rfl (show w32 305 = 305 by decide) d_QR_isMatchSign_10 (by decide) (fun c6 => ?_) (fun c6 => ?_)
    · replace hs := oq_pos c6 hs
      exact jr_lv [] rfl (B_27 hs)
    · replace hs := oq_neg c6 hs
      refine jr_iload_n ok 0 d_QR_isMatchSign_13 rfl rfl ?_
      refine jr_sipush ok d_QR_isMatchSign_14 (by decide +kernel) ?_
      refine jr_wicmp_eq 27 ok rfl (show w32 306 = 306 by decide) d_QR_isMatchSign_17 (by decide) (fun c7 => ?_) (fun c7 => ?_)
      · replace hs := oq_pos c7 hs
        exact jr_lv [] rfl (B_27 hs)
      · replace hs := oq_neg c7 hs
        refine jr_iload_n ok 0 d_QR_isMatchSign_20 rfl rfl ?_
        refine jr_sipush ok d_QR_isMatchSign_21 (by decide +kernel) ?_
        refine jr_wicmp_ne 31 ok rfl (show w32 307 = 307 by decide) d_QR_isMatchSign_24 (by decide) (fun c8 => ?_) (fun c8 => ?_)
        · replace hs := oq_neg c8 hs
          refine jr_iconst ok d_QR_isMatchSign_31 ?_
          exact jm_zrets ok (by decide +kernel) fin hs d_QR_isMatchSign_32
        · replace hs := oq_pos c8 hs
          exact jr_lv [] rfl (B_27 hs)

def s_St_parcels (c : CW) (S : WS)  : Option (Int × WS) := some (S.st_parcels, S)
set_option maxHeartbeats 4000000 in
set_option maxRecDepth 100000 in
theorem r_St_parcels (l : Launch) (D : jd_T) (g : Nat → Nat) (A : AW) (c : CW) (S : WS)  (r : Int) (S9 : WS)  (hs : s_St_parcels c S  = some (r, S9)) : jc_C l D y_St_parcels b_St_parcels 1 (some .int) { frames := 0, cells := 0, slots := 0, locals := 0 } [.ref (g 2)] (wtL D g A c S) (fun _ : Unit => (.returned (some (.int (ii r))), True, wtL D g A c S9)) := by
  refine jc_of rfl (Nat.le_of_ble_eq_true rfl) ?_
  intro X hl hR hN ok hnm fin
  subst hl
  show jw X 0 0 (wtL D g A c S) [(0, .ref (g 2))] 0 []
  rw [s_St_parcels] at hs
  refine jr_aload_n ok 0 d_St_parcels_0 rfl rfl ?_
  refine jr_get (v := .int (ii S.st_parcels)) ok 3 f_St_40 rfl rfl d_St_parcels_1 ?_
  exact jm_iret (Lf := wtL D g A c) ok fin hs d_St_parcels_4

def s_St_scars (c : CW) (S : WS)  : Option (Int × WS) := some (S.st_scars, S)
set_option maxHeartbeats 4000000 in
set_option maxRecDepth 100000 in
theorem r_St_scars (l : Launch) (D : jd_T) (g : Nat → Nat) (A : AW) (c : CW) (S : WS)  (r : Int) (S9 : WS)  (hs : s_St_scars c S  = some (r, S9)) : jc_C l D y_St_scars b_St_scars 1 (some .int) { frames := 0, cells := 0, slots := 0, locals := 0 } [.ref (g 2)] (wtL D g A c S) (fun _ : Unit => (.returned (some (.int (ii r))), True, wtL D g A c S9)) := by
  refine jc_of rfl (Nat.le_of_ble_eq_true rfl) ?_
  intro X hl hR hN ok hnm fin
  subst hl
  show jw X 0 0 (wtL D g A c S) [(0, .ref (g 2))] 0 []
  rw [s_St_scars] at hs
  refine jr_aload_n ok 0 d_St_scars_0 rfl rfl ?_
  refine jr_get (v := .int (ii S.st_scars)) ok 3 f_St_43 rfl rfl d_St_scars_1 ?_
  exact jm_iret (Lf := wtL D g A c) ok fin hs d_St_scars_4

def s_Tp_keep (c : CW) (S : WS) (v1 : Int) : Option (Unit × WS) := if w32 v1 < 0 then some ((), S) else if w32 S.tp_size ≤ w32 v1 then some ((), S) else some ((), WS.w_tp_size S v1)
set_option maxHeartbeats 4000000 in
set_option maxRecDepth 100000 in
theorem r_Tp_keep (l : Launch) (D : jd_T) (g : Nat → Nat) (A : AW) (c : CW) (S : WS) (v1 : Int) (r : Unit) (S9 : WS)  (hs : s_Tp_keep c S v1 = some (r, S9)) : jc_C l D y_Tp_keep b_Tp_keep 2 none { frames := 0, cells := 0, slots := 0, locals := 0 } [.ref (g 1), .int (ii v1)] (wtL D g A c S) (fun _ : Unit => (.returned (none), True, wtL D g A c S9)) := by
  refine jc_of rfl (Nat.le_of_ble_eq_true rfl) ?_
  intro X hl hR hN ok hnm fin
  subst hl
  show jw X 0 0 (wtL D g A c S) [(0, .ref (g 1)), (1, .int (ii v1))] 0 []
  rw [s_Tp_keep] at hs
  refine jr_iload_n ok 1 d_Tp_keep_0 rfl rfl ?_
  refine jr_wif_lt 17 ok rfl d_Tp_keep_1 (by decide) (fun c3 => ?_) (fun c3 => ?_)
  · replace hs := oq_pos c3 hs
    exact jm_vret (Lf := wtL D g A c) ok fin hs d_Tp_keep_17
  · replace hs := oq_neg c3 hs
    refine jr_iload_n ok 1 d_Tp_keep_4 rfl rfl ?_
    refine jr_aload_n ok 0 d_Tp_keep_5 rfl rfl ?_
    refine jr_get (v := .int (ii S.tp_size)) ok 1 f_Tp_15 rfl rfl d_Tp_keep_6 ?_
    refine jr_wicmp_ge 17 ok rfl rfl d_Tp_keep_9 (by decide) (fun c4 => ?_) (fun c4 => ?_)
    · replace hs := oq_pos c4 hs
      exact jm_vret (Lf := wtL D g A c) ok fin hs d_Tp_keep_17
    · replace hs := oq_neg c4 hs
      refine jr_aload_n ok 0 d_Tp_keep_12 rfl rfl ?_
      refine jr_iload_n ok 1 d_Tp_keep_13 rfl rfl ?_
      refine jr_put (wtL D g A c (WS.w_tp_size S v1)) ok 1 f_Tp_15 rfl rfl rfl (Nat.le_of_ble_eq_true rfl) rfl d_Tp_keep_14 ?_
      exact jm_vret (Lf := wtL D g A c) ok fin hs d_Tp_keep_17

def s_Gd_placeOf (c : CW) (S : WS) (v0 : Nat) (v1 : Int) (v2 : Int) : Option (Int × WS) := if w32 (S.gd_named v0) = 0 then some (0 + v2, S) else some ((v1 * (S.gd_windows v0)) + v2, S)
set_option maxHeartbeats 4000000 in
set_option maxRecDepth 100000 in
theorem r_Gd_placeOf (l : Launch) (D : jd_T) (g : Nat → Nat) (A : AW) (c : CW) (S : WS) (v0 : Nat) (v1 : Int) (v2 : Int) (r : Int) (S9 : WS) (hv0 : v0 < 19) (hs : s_Gd_placeOf c S v0 v1 v2 = some (r, S9)) : jc_C l D y_Gd_placeOf b_Gd_placeOf 3 (some .int) { frames := 0, cells := 0, slots := 0, locals := 0 } [.ref (g (19 + v0)), .int (ii v1), .int (ii v2)] (wtL D g A c S) (fun _ : Unit => (.returned (some (.int (ii r))), True, wtL D g A c S9)) := by
  refine jc_of rfl (Nat.le_of_ble_eq_true rfl) ?_
  intro X hl hR hN ok hnm fin
  subst hl
  show jw X 0 0 (wtL D g A c S) [(0, .ref (g (19 + v0))), (1, .int (ii v1)), (2, .int (ii v2))] 0 []
  rw [s_Gd_placeOf] at hs
  refine jr_aload_n ok 0 d_Gd_placeOf_0 rfl rfl ?_
  refine jq_get (v := .int (ii (S.gd_named v0))) ok f_Gd_26 (sg_atp (F := grdW D g A c S) 23 rfl hv0 0 rfl) rfl d_Gd_placeOf_1 ?_
  refine jr_wif_eq 16 ok rfl d_Gd_placeOf_4 (by decide) (fun c2 => ?_) (fun c2 => ?_)
  · replace hs := oq_pos c2 hs
    refine jr_iconst ok d_Gd_placeOf_16 ?_
    refine jr_iload_n ok 2 d_Gd_placeOf_17 rfl rfl ?_
    refine jr_iadd ok d_Gd_placeOf_18 ?_
    exact jm_iret (Lf := wtL D g A c) ok fin hs d_Gd_placeOf_19
  · replace hs := oq_neg c2 hs
    refine jr_iload_n ok 1 d_Gd_placeOf_7 rfl rfl ?_
    refine jr_aload_n ok 0 d_Gd_placeOf_8 rfl rfl ?_
    refine jq_get (v := .int (ii (S.gd_windows v0))) ok f_Gd_23 (sg_atp (F := grdW D g A c S) 23 rfl hv0 0 rfl) rfl d_Gd_placeOf_9 ?_
    refine jr_imul ok d_Gd_placeOf_12 ?_
    refine jr_goto 17 ok d_Gd_placeOf_13 (by decide) ?_
    refine jr_iload_n ok 2 d_Gd_placeOf_17 rfl rfl ?_
    refine jr_iadd ok d_Gd_placeOf_18 ?_
    exact jm_iret (Lf := wtL D g A c) ok fin hs d_Gd_placeOf_19

def s_Gd_clear (c : CW) (S : WS) (v0 : Nat) (v1 : Int) : Option (Unit × WS) := if w32 v1 < 0 then some ((), S) else if w32 (c.gd v0) ≤ w32 v1 then some ((), S) else if (0 : Int) ≤ v1 ∧ v1 < (c.gd v0 : Int) then some ((), WS.w_gd_there S (nU S.gd_there v0 (aU (S.gd_there v0) v1 0))) else none
set_option maxHeartbeats 4000000 in
set_option maxRecDepth 100000 in
theorem r_Gd_clear (l : Launch) (D : jd_T) (g : Nat → Nat) (A : AW) (c : CW) (S : WS) (v0 : Nat) (v1 : Int) (r : Unit) (S9 : WS) (hv0 : v0 < 19) (hs : s_Gd_clear c S v0 v1 = some (r, S9)) : jc_C l D y_Gd_clear b_Gd_clear 2 none { frames := 0, cells := 0, slots := 0, locals := 0 } [.ref (g (19 + v0)), .int (ii v1)] (wtL D g A c S) (fun _ : Unit => (.returned (none), True, wtL D g A c S9)) := by
  refine jc_of rfl (Nat.le_of_ble_eq_true rfl) ?_
  intro X hl hR hN ok hnm fin
  subst hl
  show jw X 0 0 (wtL D g A c S) [(0, .ref (g (19 + v0))), (1, .int (ii v1))] 0 []
  rw [s_Gd_clear] at hs
  refine jr_iload_n ok 1 d_Gd_clear_0 rfl rfl ?_
  refine jr_wif_lt 20 ok rfl d_Gd_clear_1 (by decide) (fun c4 => ?_) (fun c4 => ?_)
  · replace hs := oq_pos c4 hs
    exact jm_vret (Lf := wtL D g A c) ok fin hs d_Gd_clear_20
  · replace hs := oq_neg c4 hs
    refine jr_iload_n ok 1 d_Gd_clear_4 rfl rfl ?_
    refine jr_aload_n ok 0 d_Gd_clear_5 rfl rfl ?_
    refine jq_get (v := .ref (A.gt v0)) ok f_Gd_15 (sg_atp (F := grdW D g A c S) 23 rfl hv0 0 rfl) rfl d_Gd_clear_6 ?_
    refine jq_alen_i ok (sg_atp (F := grdW D g A c S) 23 rfl hv0 2 rfl) rfl d_Gd_clear_9 ?_
    refine jr_wicmp_ge 20 ok rfl rfl d_Gd_clear_10 (by decide) (fun c5 => ?_) (fun c5 => ?_)
    · replace hs := oq_pos c5 hs
      exact jm_vret (Lf := wtL D g A c) ok fin hs d_Gd_clear_20
    · replace hs := oq_neg c5 hs
      refine jr_aload_n ok 0 d_Gd_clear_13 rfl rfl ?_
      refine jq_get (v := .ref (A.gt v0)) ok f_Gd_15 (sg_atp (F := grdW D g A c S) 23 rfl hv0 0 rfl) rfl d_Gd_clear_14 ?_
      refine jr_iload_n ok 1 d_Gd_clear_17 rfl rfl ?_
      refine jr_iconst ok d_Gd_clear_18 ?_
      obtain ⟨hb6, hs⟩ := oq_if hs
      refine jq_zast (wtL D g A c (WS.w_gd_there S (nU S.gd_there v0 (aU (S.gd_there v0) v1 0)))) ok (sg_atp (F := grdW D g A c S) 23 rfl hv0 2 rfl) rfl hb6.1 hb6.2 (by decide +kernel) ⟨grdW D g A c (WS.w_gd_there S (nU S.gd_there v0 (aU (S.gd_there v0) v1 0))), fun j hj => by simp only [grdW, nU, if_neg hj, WS.w_gd_there, WS.gd_numbers, WS.gd_there, WS.gd_lines, WS.gd_windows, WS.gd_named], by simp [grdW, nU, WS.w_gd_there, WS.gd_numbers, WS.gd_there, WS.gd_lines, WS.gd_windows, WS.gd_named] <;> rfl, rfl⟩ d_Gd_clear_19 ?_
      exact jm_vret (Lf := wtL D g A c) ok fin hs d_Gd_clear_20

def s_Se_valueLength (c : CW) (S : WS) (v0 : Nat) (v1 : Int) : Option (Int × WS) := if w32 v1 < 0 then some (0, S) else if w32 (c.lm v0) ≤ w32 v1 then some (0, S) else if w32 v1 < w32 (c.lm v0) then if (0 : Int) ≤ v1 ∧ v1 < (c.lm v0 : Int) then if (0 : Int) ≤ v1 ∧ v1 < (c.lm v0 : Int) then some (((S.se_ends v0 v1) - (S.se_signs v0 v1)) - 1, S) else none else none else some (0, S)
set_option maxHeartbeats 4000000 in
set_option maxRecDepth 100000 in
theorem r_Se_valueLength (l : Launch) (D : jd_T) (g : Nat → Nat) (A : AW) (c : CW) (S : WS) (v0 : Nat) (v1 : Int) (r : Int) (S9 : WS) (hv0 : v0 < c.N) (hs : s_Se_valueLength c S v0 v1 = some (r, S9)) : jc_C l D y_Se_valueLength b_Se_valueLength 2 (some .int) { frames := 0, cells := 0, slots := 0, locals := 0 } [.ref (A.us v0 0), .int (ii v1)] (wtL D g A c S) (fun _ : Unit => (.returned (some (.int (ii r))), True, wtL D g A c S9)) := by
  refine jc_of rfl (Nat.le_of_ble_eq_true rfl) ?_
  intro X hl hR hN ok hnm fin
  subst hl
  show jw X 0 0 (wtL D g A c S) [(0, .ref (A.us v0 0)), (1, .int (ii v1))] 0 []
  rw [s_Se_valueLength] at hs
  refine jr_iload_n ok 1 d_Se_valueLength_0 rfl rfl ?_
  refine jr_wif_lt 22 ok rfl d_Se_valueLength_1 (by decide) (fun c6 => ?_) (fun c6 => ?_)
  · replace hs := oq_pos c6 hs
    refine jr_iconst ok d_Se_valueLength_22 ?_
    exact jm_iret (Lf := wtL D g A c) ok fin hs d_Se_valueLength_23
  · replace hs := oq_neg c6 hs
    refine jr_iload_n ok 1 d_Se_valueLength_4 rfl rfl ?_
    refine jr_aload_n ok 0 d_Se_valueLength_5 rfl rfl ?_
    refine jq_get (v := .ref (A.us v0 3)) ok f_Se_26 (sg_atp (F := serW D A c S) 5 rfl hv0 0 rfl) rfl d_Se_valueLength_6 ?_
    refine jq_alen_i ok (sg_atp (F := serW D A c S) 5 rfl hv0 3 rfl) rfl d_Se_valueLength_9 ?_
    refine jr_wicmp_ge 22 ok rfl rfl d_Se_valueLength_10 (by decide) (fun c7 => ?_) (fun c7 => ?_)
    · replace hs := oq_pos c7 hs
      refine jr_iconst ok d_Se_valueLength_22 ?_
      exact jm_iret (Lf := wtL D g A c) ok fin hs d_Se_valueLength_23
    · replace hs := oq_neg c7 hs
      refine jr_iload_n ok 1 d_Se_valueLength_13 rfl rfl ?_
      refine jr_aload_n ok 0 d_Se_valueLength_14 rfl rfl ?_
      refine jq_get (v := .ref (A.us v0 4)) ok f_Se_29 (sg_atp (F := serW D A c S) 5 rfl hv0 0 rfl) rfl d_Se_valueLength_15 ?_
      refine jq_alen_i ok (sg_atp (F := serW D A c S) 5 rfl hv0 4 rfl) rfl d_Se_valueLength_18 ?_
      refine jr_wicmp_lt 24 ok rfl rfl d_Se_valueLength_19 (by decide) (fun c8 => ?_) (fun c8 => ?_)
      · replace hs := oq_pos c8 hs
        refine jr_aload_n ok 0 d_Se_valueLength_24 rfl rfl ?_
        refine jq_get (v := .ref (A.us v0 4)) ok f_Se_29 (sg_atp (F := serW D A c S) 5 rfl hv0 0 rfl) rfl d_Se_valueLength_25 ?_
        refine jr_iload_n ok 1 d_Se_valueLength_28 rfl rfl ?_
        obtain ⟨hb9, hs⟩ := oq_if hs
        refine jq_iald ok (sg_atp (F := serW D A c S) 5 rfl hv0 4 rfl) rfl hb9.1 hb9.2 d_Se_valueLength_29 ?_
        refine jr_aload_n ok 0 d_Se_valueLength_30 rfl rfl ?_
        refine jq_get (v := .ref (A.us v0 3)) ok f_Se_26 (sg_atp (F := serW D A c S) 5 rfl hv0 0 rfl) rfl d_Se_valueLength_31 ?_
        refine jr_iload_n ok 1 d_Se_valueLength_34 rfl rfl ?_
        obtain ⟨hb10, hs⟩ := oq_if hs
        refine jq_iald ok (sg_atp (F := serW D A c S) 5 rfl hv0 3 rfl) rfl hb10.1 hb10.2 d_Se_valueLength_35 ?_
        refine jr_isub ok d_Se_valueLength_36 ?_
        refine jr_iconst ok d_Se_valueLength_37 ?_
        refine jr_isub ok d_Se_valueLength_38 ?_
        exact jm_iret (Lf := wtL D g A c) ok fin hs d_Se_valueLength_39
      · replace hs := oq_neg c8 hs
        refine jr_iconst ok d_Se_valueLength_22 ?_
        exact jm_iret (Lf := wtL D g A c) ok fin hs d_Se_valueLength_23

def s_Pt_timeAt (c : CW) (S : WS) (v0 : Nat) (v1 : Int) : Option (Int64 × WS) := if w32 v1 < 0 then some (ll (-1), S) else if w32 (S.pt_size v0) ≤ w32 v1 then some (ll (-1), S) else if (0 : Int) ≤ v1 ∧ v1 < (c.pc v0 : Int) then some (S.pt_times v0 v1, S) else none
set_option maxHeartbeats 4000000 in
set_option maxRecDepth 100000 in
theorem r_Pt_timeAt (l : Launch) (D : jd_T) (g : Nat → Nat) (A : AW) (c : CW) (S : WS) (v0 : Nat) (v1 : Int) (r : Int64) (S9 : WS) (hv0 : v0 < c.N) (hs : s_Pt_timeAt c S v0 v1 = some (r, S9)) : jc_C l D y_Pt_timeAt b_Pt_timeAt 2 (some .long) { frames := 0, cells := 0, slots := 0, locals := 0 } [.ref (A.us v0 5), .int (ii v1)] (wtL D g A c S) (fun _ : Unit => (.returned (some (.long r)), True, wtL D g A c S9)) := by
  refine jc_of rfl (Nat.le_of_ble_eq_true rfl) ?_
  intro X hl hR hN ok hnm fin
  subst hl
  show jw X 0 0 (wtL D g A c S) [(0, .ref (A.us v0 5)), (1, .int (ii v1))] 0 []
  rw [s_Pt_timeAt] at hs
  refine jr_iload_n ok 1 d_Pt_timeAt_0 rfl rfl ?_
  refine jr_wif_lt 21 ok rfl d_Pt_timeAt_1 (by decide) (fun c4 => ?_) (fun c4 => ?_)
  · replace hs := oq_pos c4 hs
    refine jr_ldc2 (z := -1) ok w_531 (by decide +kernel) d_Pt_timeAt_21 ?_
    exact jm_lret (Lf := wtL D g A c) ok fin hs d_Pt_timeAt_24
  · replace hs := oq_neg c4 hs
    refine jr_iload_n ok 1 d_Pt_timeAt_4 rfl rfl ?_
    refine jr_aload_n ok 0 d_Pt_timeAt_5 rfl rfl ?_
    refine jq_get (v := .int (ii (S.pt_size v0))) ok f_Pt_24 (sg_atp (F := serW D A c S) 5 rfl hv0 5 rfl) rfl d_Pt_timeAt_6 ?_
    refine jr_wicmp_ge 21 ok rfl rfl d_Pt_timeAt_9 (by decide) (fun c5 => ?_) (fun c5 => ?_)
    · replace hs := oq_pos c5 hs
      refine jr_ldc2 (z := -1) ok w_531 (by decide +kernel) d_Pt_timeAt_21 ?_
      exact jm_lret (Lf := wtL D g A c) ok fin hs d_Pt_timeAt_24
    · replace hs := oq_neg c5 hs
      refine jr_aload_n ok 0 d_Pt_timeAt_12 rfl rfl ?_
      refine jq_get (v := .ref (A.us v0 6)) ok f_Pt_9 (sg_atp (F := serW D A c S) 5 rfl hv0 5 rfl) rfl d_Pt_timeAt_13 ?_
      refine jr_iload_n ok 1 d_Pt_timeAt_16 rfl rfl ?_
      obtain ⟨hb6, hs⟩ := oq_if hs
      refine jq_lald ok (sg_atp (F := serW D A c S) 5 rfl hv0 6 rfl) rfl hb6.1 hb6.2 d_Pt_timeAt_17 ?_
      refine jr_goto 24 ok d_Pt_timeAt_18 (by decide) ?_
      exact jm_lret (Lf := wtL D g A c) ok fin hs d_Pt_timeAt_24

def s_Ev_grownBy (v0 : Int64) (v2 : Int64) : Option (Int64) := if v2.toInt < v0.toInt then some v2 else some (v2 - v0)
set_option maxHeartbeats 4000000 in
set_option maxRecDepth 100000 in
theorem r_Ev_grownBy (l : Launch) (D : jd_T) (v0 : Int64) (v2 : Int64) (r : Int64) (hs : s_Ev_grownBy v0 v2 = some r) : jc_C l D y_Ev_grownBy b_Ev_grownBy 4 (some .long) { frames := 0, cells := 0, slots := 0, locals := 0 } [.long v0, .long v2] [] (fun _ : Unit => (.returned (some (.long r)), True, [])) := by
  refine jc_of rfl (Nat.le_of_ble_eq_true rfl) ?_
  intro X hl hR hN ok hnm fin
  subst hl
  show jw X 0 0 [] [(0, .long v0), (2, .long v2)] 0 []
  rw [s_Ev_grownBy] at hs
  refine jr_lload_n ok 0 d_Ev_grownBy_0 rfl rfl ?_
  refine jr_lload_n ok 1 d_Ev_grownBy_1 rfl rfl ?_
  refine jr_lif_gt 12 ok rfl rfl d_Ev_grownBy_2 d_Ev_grownBy_3 (by decide) (fun c2 => ?_) (fun c2 => ?_)
  · replace hs := oq_pos c2 hs
    refine jr_lload_n ok 1 d_Ev_grownBy_12 rfl rfl ?_
    exact jm_lrets ok fin hs d_Ev_grownBy_13
  · replace hs := oq_neg c2 hs
    refine jr_lload_n ok 1 d_Ev_grownBy_6 rfl rfl ?_
    refine jr_lload_n ok 0 d_Ev_grownBy_7 rfl rfl ?_
    refine jr_lsubx ok d_Ev_grownBy_8 ?_
    refine jr_goto 13 ok d_Ev_grownBy_9 (by decide) ?_
    exact jm_lrets ok fin hs d_Ev_grownBy_13

def s_LR_faultPlace (c : CW) (S : WS)  : Option (Int × WS) := some (S.lr_faultPlace, S)
set_option maxHeartbeats 4000000 in
set_option maxRecDepth 100000 in
theorem r_LR_faultPlace (l : Launch) (D : jd_T) (g : Nat → Nat) (A : AW) (c : CW) (S : WS)  (r : Int) (S9 : WS)  (hs : s_LR_faultPlace c S  = some (r, S9)) : jc_C l D y_LR_faultPlace b_LR_faultPlace 1 (some .int) { frames := 0, cells := 0, slots := 0, locals := 0 } [.ref (g 4)] (wtL D g A c S) (fun _ : Unit => (.returned (some (.int (ii r))), True, wtL D g A c S9)) := by
  refine jc_of rfl (Nat.le_of_ble_eq_true rfl) ?_
  intro X hl hR hN ok hnm fin
  subst hl
  show jw X 0 0 (wtL D g A c S) [(0, .ref (g 4))] 0 []
  rw [s_LR_faultPlace] at hs
  refine jr_aload_n ok 0 d_LR_faultPlace_0 rfl rfl ?_
  refine jr_get (v := .int (ii S.lr_faultPlace)) ok 6 f_LR_29 rfl rfl d_LR_faultPlace_1 ?_
  exact jm_iret (Lf := wtL D g A c) ok fin hs d_LR_faultPlace_4

def s_Lx_kind (c : CW) (S : WS)  : Option (Int × WS) := some (S.lx_kind, S)
set_option maxHeartbeats 4000000 in
set_option maxRecDepth 100000 in
theorem r_Lx_kind (l : Launch) (D : jd_T) (g : Nat → Nat) (A : AW) (c : CW) (S : WS)  (r : Int) (S9 : WS)  (hs : s_Lx_kind c S  = some (r, S9)) : jc_C l D y_Lx_kind b_Lx_kind 1 (some .int) { frames := 0, cells := 0, slots := 0, locals := 0 } [.ref (g 11)] (wtL D g A c S) (fun _ : Unit => (.returned (some (.int (ii r))), True, wtL D g A c S9)) := by
  refine jc_of rfl (Nat.le_of_ble_eq_true rfl) ?_
  intro X hl hR hN ok hnm fin
  subst hl
  show jw X 0 0 (wtL D g A c S) [(0, .ref (g 11))] 0 []
  rw [s_Lx_kind] at hs
  refine jr_aload_n ok 0 d_Lx_kind_0 rfl rfl ?_
  refine jr_get (v := .int (ii S.lx_kind)) ok 14 f_Lx_15 rfl rfl d_Lx_kind_1 ?_
  exact jm_iret (Lf := wtL D g A c) ok fin hs d_Lx_kind_4

def s_Lx_behind (c : CW) (S : WS)  : Option (Int × WS) := some (S.lx_behind, S)
set_option maxHeartbeats 4000000 in
set_option maxRecDepth 100000 in
theorem r_Lx_behind (l : Launch) (D : jd_T) (g : Nat → Nat) (A : AW) (c : CW) (S : WS)  (r : Int) (S9 : WS)  (hs : s_Lx_behind c S  = some (r, S9)) : jc_C l D y_Lx_behind b_Lx_behind 1 (some .int) { frames := 0, cells := 0, slots := 0, locals := 0 } [.ref (g 11)] (wtL D g A c S) (fun _ : Unit => (.returned (some (.int (ii r))), True, wtL D g A c S9)) := by
  refine jc_of rfl (Nat.le_of_ble_eq_true rfl) ?_
  intro X hl hR hN ok hnm fin
  subst hl
  show jw X 0 0 (wtL D g A c S) [(0, .ref (g 11))] 0 []
  rw [s_Lx_behind] at hs
  refine jr_aload_n ok 0 d_Lx_behind_0 rfl rfl ?_
  refine jr_get (v := .int (ii S.lx_behind)) ok 14 f_Lx_22 rfl rfl d_Lx_behind_1 ?_
  exact jm_iret (Lf := wtL D g A c) ok fin hs d_Lx_behind_4

def q_Lx_isNameByte_42  : Option (Int) := some 1

def q_Lx_isNameByte_36 (v0 : Int) : Option (Int) := if w32 v0 = 95 then q_Lx_isNameByte_42  else some 0

def q_Lx_isNameByte_24 (v0 : Int) : Option (Int) := if w32 v0 < 48 then q_Lx_isNameByte_36 v0 else if w32 v0 ≤ 57 then q_Lx_isNameByte_42  else q_Lx_isNameByte_36 v0

def q_Lx_isNameByte_12 (v0 : Int) : Option (Int) := if w32 v0 < 65 then q_Lx_isNameByte_24 v0 else if w32 v0 ≤ 90 then q_Lx_isNameByte_42  else q_Lx_isNameByte_24 v0

def s_Lx_isNameByte (v0 : Int) : Option (Int) := if w32 v0 < 97 then q_Lx_isNameByte_12 v0 else if w32 v0 ≤ 122 then q_Lx_isNameByte_42  else q_Lx_isNameByte_12 v0
set_option maxHeartbeats 4000000 in
set_option maxRecDepth 100000 in
theorem r_Lx_isNameByte (l : Launch) (D : jd_T) (v0 : Int) (r : Int) (hs : s_Lx_isNameByte v0 = some r) : jc_C l D y_Lx_isNameByte b_Lx_isNameByte 1 (some .boolean) { frames := 0, cells := 0, slots := 0, locals := 0 } [.int (ii v0)] [] (fun _ : Unit => (.returned (some (.int (ii r))), True, [])) := by
  refine jc_of rfl (Nat.le_of_ble_eq_true rfl) ?_
  intro X hl hR hN ok hnm fin
  subst hl
  have B_42 : q_Lx_isNameByte_42  = some r → jw X 0 0 [] [] 42 [] := by
    intro hs
    rw [q_Lx_isNameByte_42] at hs
    refine jr_iconst ok d_Lx_isNameByte_42 ?_
    refine jr_goto 47 ok d_Lx_isNameByte_43 (by decide) ?_
    exact jm_zrets ok (by decide +kernel) fin hs d_Lx_isNameByte_47
  have B_36 : ∀ (v0 : Int), q_Lx_isNameByte_36 v0 = some r → jw X 0 0 [] [(0, .int (ii v0))] 36 [] := by
    intro v0 hs
    rw [q_Lx_isNameByte_36] at hs
    refine jr_iload_n ok 0 d_Lx_isNameByte_36 rfl rfl ?_
    refine jr_bipush ok d_Lx_isNameByte_37 (by decide +kernel) ?_
    refine jr_wicmp_ne 46 ok rfl (show w32 95 = 95 by decide) d_Lx_isNameByte_39 (by decide) (fun c12 => ?_) (fun c12 => ?_)
    · replace hs := oq_neg c12 hs
      refine jr_iconst ok d_Lx_isNameByte_46 ?_
      exact jm_zrets ok (by decide +kernel) fin hs d_Lx_isNameByte_47
    · replace hs := oq_pos c12 hs
      exact jr_lv [] rfl (B_42 hs)
  have B_24 : ∀ (v0 : Int), q_Lx_isNameByte_24 v0 = some r → jw X 0 0 [] [(0, .int (ii v0))] 24 [] := by
    intro v0 hs
    rw [q_Lx_isNameByte_24] at hs
    refine jr_iload_n ok 0 d_Lx_isNameByte_24 rfl rfl ?_
    refine jr_bipush ok d_Lx_isNameByte_25 (by decide +kernel) ?_
    refine jr_wicmp_lt 36 ok rfl (show w32 48 = 48 by decide) d_Lx_isNameByte_27 (by decide) (fun c10 => ?_) (fun c10 => ?_)
    · replace hs := oq_pos c10 hs
      exact jr_lv [0] rfl (B_36 v0 hs)
    · replace hs := oq_neg c10 hs
      refine jr_iload_n ok 0 d_Lx_isNameByte_30 rfl rfl ?_
      refine jr_bipush ok d_Lx_isNameByte_31 (by decide +kernel) ?_
      refine jr_wicmp_le 42 ok rfl (show w32 57 = 57 by decide) d_Lx_isNameByte_33 (by decide) (fun c11 => ?_) (fun c11 => ?_)
      · replace hs := oq_pos c11 hs
        exact jr_lv [] rfl (B_42 hs)
      · replace hs := oq_neg c11 hs
        exact jr_lv [0] rfl (B_36 v0 hs)
  have B_12 : ∀ (v0 : Int), q_Lx_isNameByte_12 v0 = some r → jw X 0 0 [] [(0, .int (ii v0))] 12 [] := by
    intro v0 hs
    rw [q_Lx_isNameByte_12] at hs
    refine jr_iload_n ok 0 d_Lx_isNameByte_12 rfl rfl ?_
    refine jr_bipush ok d_Lx_isNameByte_13 (by decide +kernel) ?_
    refine jr_wicmp_lt 24 ok rfl (show w32 65 = 65 by decide) d_Lx_isNameByte_15 (by decide) (fun c8 => ?_) (fun c8 => ?_)
    · replace hs := oq_pos c8 hs
      exact jr_lv [0] rfl (B_24 v0 hs)
    · replace hs := oq_neg c8 hs
      refine jr_iload_n ok 0 d_Lx_isNameByte_18 rfl rfl ?_
      refine jr_bipush ok d_Lx_isNameByte_19 (by decide +kernel) ?_
      refine jr_wicmp_le 42 ok rfl (show w32 90 = 90 by decide) d_Lx_isNameByte_21 (by decide) (fun c9 => ?_) (fun c9 => ?_)
      · replace hs := oq_pos c9 hs
        exact jr_lv [] rfl (B_42 hs)
      · replace hs := oq_neg c9 hs
        exact jr_lv [0] rfl (B_24 v0 hs)
  show jw X 0 0 [] [(0, .int (ii v0))] 0 []
  rw [s_Lx_isNameByte] at hs
  refine jr_iload_n ok 0 d_Lx_isNameByte_0 rfl rfl ?_
  refine jr_bipush ok d_Lx_isNameByte_1 (by decide +kernel) ?_
  refine jr_wicmp_lt 12 ok rfl (show w32 97 = 97 by decide) d_Lx_isNameByte_3 (by decide) (fun c13 => ?_) (fun c13 => ?_)
  · replace hs := oq_pos c13 hs
    exact jr_lv [0] rfl (B_12 v0 hs)
  · replace hs := oq_neg c13 hs
    refine jr_iload_n ok 0 d_Lx_isNameByte_6 rfl rfl ?_
    refine jr_bipush ok d_Lx_isNameByte_7 (by decide +kernel) ?_
    refine jr_wicmp_le 42 ok rfl (show w32 122 = 122 by decide) d_Lx_isNameByte_9 (by decide) (fun c14 => ?_) (fun c14 => ?_)
    · replace hs := oq_pos c14 hs
      exact jr_lv [] rfl (B_42 hs)
    · replace hs := oq_neg c14 hs
      exact jr_lv [0] rfl (B_12 v0 hs)

def s_Pt_lastTime (c : CW) (S : WS) (v0 : Nat) : Option (Int64 × WS) := some (S.pt_lastTime v0, S)
set_option maxHeartbeats 4000000 in
set_option maxRecDepth 100000 in
theorem r_Pt_lastTime (l : Launch) (D : jd_T) (g : Nat → Nat) (A : AW) (c : CW) (S : WS) (v0 : Nat) (r : Int64) (S9 : WS) (hv0 : v0 < c.N) (hs : s_Pt_lastTime c S v0 = some (r, S9)) : jc_C l D y_Pt_lastTime b_Pt_lastTime 1 (some .long) { frames := 0, cells := 0, slots := 0, locals := 0 } [.ref (A.us v0 5)] (wtL D g A c S) (fun _ : Unit => (.returned (some (.long r)), True, wtL D g A c S9)) := by
  refine jc_of rfl (Nat.le_of_ble_eq_true rfl) ?_
  intro X hl hR hN ok hnm fin
  subst hl
  show jw X 0 0 (wtL D g A c S) [(0, .ref (A.us v0 5))] 0 []
  rw [s_Pt_lastTime] at hs
  refine jr_aload_n ok 0 d_Pt_lastTime_0 rfl rfl ?_
  refine jq_get (v := .long (S.pt_lastTime v0)) ok f_Pt_20 (sg_atp (F := serW D A c S) 5 rfl hv0 5 rfl) rfl d_Pt_lastTime_1 ?_
  exact jm_lret (Lf := wtL D g A c) ok fin hs d_Pt_lastTime_4

def s_Pt_packAll (c : CW) (S : WS) (v0 : Nat) : Option (Unit × WS) := some ((), WS.w_pt_packed S (nU S.pt_packed v0 (S.pt_size v0)))
set_option maxHeartbeats 4000000 in
set_option maxRecDepth 100000 in
theorem r_Pt_packAll (l : Launch) (D : jd_T) (g : Nat → Nat) (A : AW) (c : CW) (S : WS) (v0 : Nat) (r : Unit) (S9 : WS) (hv0 : v0 < c.N) (hs : s_Pt_packAll c S v0 = some (r, S9)) : jc_C l D y_Pt_packAll b_Pt_packAll 1 none { frames := 0, cells := 0, slots := 0, locals := 0 } [.ref (A.us v0 5)] (wtL D g A c S) (fun _ : Unit => (.returned (none), True, wtL D g A c S9)) := by
  refine jc_of rfl (Nat.le_of_ble_eq_true rfl) ?_
  intro X hl hR hN ok hnm fin
  subst hl
  show jw X 0 0 (wtL D g A c S) [(0, .ref (A.us v0 5))] 0 []
  rw [s_Pt_packAll] at hs
  refine jr_aload_n ok 0 d_Pt_packAll_0 rfl rfl ?_
  refine jr_aload_n ok 0 d_Pt_packAll_1 rfl rfl ?_
  refine jq_get (v := .int (ii (S.pt_size v0))) ok f_Pt_24 (sg_atp (F := serW D A c S) 5 rfl hv0 5 rfl) rfl d_Pt_packAll_2 ?_
  refine jq_put (wtL D g A c (WS.w_pt_packed S (nU S.pt_packed v0 (S.pt_size v0)))) ok f_Pt_44 (sg_atp (F := serW D A c S) 5 rfl hv0 5 rfl) rfl rfl (Nat.le_of_ble_eq_true rfl) ⟨serW D A c (WS.w_pt_packed S (nU S.pt_packed v0 (S.pt_size v0))), fun j hj => by simp only [serW, nU, if_neg hj, WS.w_pt_packed, WS.se_letters, WS.se_starts, WS.se_signs, WS.se_ends, WS.pt_times, WS.pt_values, WS.pt_size, WS.pt_packed, WS.pt_lastTime], by simp [serW, nU, WS.w_pt_packed, WS.se_letters, WS.se_starts, WS.se_signs, WS.se_ends, WS.pt_times, WS.pt_values, WS.pt_size, WS.pt_packed, WS.pt_lastTime] <;> rfl, rfl⟩ d_Pt_packAll_5 ?_
  exact jm_vret (Lf := wtL D g A c) ok fin hs d_Pt_packAll_8

def s_Se_valueLetter (c : CW) (S : WS) (v0 : Nat) (v1 : Int) (v2 : Int) : Option (Int × WS) := if w32 v1 < 0 then some (-1, S) else if w32 (c.lm v0) ≤ w32 v1 then some (-1, S) else if w32 v2 < 0 then some (-1, S) else mb2 (s_Se_valueLength c S v0 v1) (fun r11 S11 => if w32 v2 < w32 r11 then if (0 : Int) ≤ v1 ∧ v1 < (c.lm v0 : Int) then mb2 (s_Se_letterAt c S11 v0 (((S11.se_signs v0 v1) + 1) + v2)) (fun r14 S14 => some (r14, S14)) else none else some (-1, S11))
set_option maxHeartbeats 4000000 in
set_option maxRecDepth 100000 in
theorem r_Se_valueLetter (l : Launch) (D : jd_T) (g : Nat → Nat) (A : AW) (c : CW) (S : WS) (v0 : Nat) (v1 : Int) (v2 : Int) (r : Int) (S9 : WS) (hv0 : v0 < c.N) (hs : s_Se_valueLetter c S v0 v1 v2 = some (r, S9)) : jc_C l D y_Se_valueLetter b_Se_valueLetter 3 (some .int) { frames := 1, cells := 0, slots := 0, locals := 21 } [.ref (A.us v0 0), .int (ii v1), .int (ii v2)] (wtL D g A c S) (fun _ : Unit => (.returned (some (.int (ii r))), True, wtL D g A c S9)) := by
  refine jc_of rfl (Nat.le_of_ble_eq_true rfl) ?_
  intro X hl hR hN ok hnm fin
  subst hl
  show jw X 0 0 (wtL D g A c S) [(0, .ref (A.us v0 0)), (1, .int (ii v1)), (2, .int (ii v2))] 0 []
  rw [s_Se_valueLetter] at hs
  refine jr_iload_n ok 1 d_Se_valueLetter_0 rfl rfl ?_
  refine jr_wif_lt 26 ok rfl d_Se_valueLetter_1 (by decide) (fun c8 => ?_) (fun c8 => ?_)
  · replace hs := oq_pos c8 hs
    refine jr_iconst ok d_Se_valueLetter_26 ?_
    exact jm_iret (Lf := wtL D g A c) ok fin hs d_Se_valueLetter_27
  · replace hs := oq_neg c8 hs
    refine jr_iload_n ok 1 d_Se_valueLetter_4 rfl rfl ?_
    refine jr_aload_n ok 0 d_Se_valueLetter_5 rfl rfl ?_
    refine jq_get (v := .ref (A.us v0 3)) ok f_Se_26 (sg_atp (F := serW D A c S) 5 rfl hv0 0 rfl) rfl d_Se_valueLetter_6 ?_
    refine jq_alen_i ok (sg_atp (F := serW D A c S) 5 rfl hv0 3 rfl) rfl d_Se_valueLetter_9 ?_
    refine jr_wicmp_ge 26 ok rfl rfl d_Se_valueLetter_10 (by decide) (fun c9 => ?_) (fun c9 => ?_)
    · replace hs := oq_pos c9 hs
      refine jr_iconst ok d_Se_valueLetter_26 ?_
      exact jm_iret (Lf := wtL D g A c) ok fin hs d_Se_valueLetter_27
    · replace hs := oq_neg c9 hs
      refine jr_iload_n ok 2 d_Se_valueLetter_13 rfl rfl ?_
      refine jr_wif_lt 26 ok rfl d_Se_valueLetter_14 (by decide) (fun c10 => ?_) (fun c10 => ?_)
      · replace hs := oq_pos c10 hs
        refine jr_iconst ok d_Se_valueLetter_26 ?_
        exact jm_iret (Lf := wtL D g A c) ok fin hs d_Se_valueLetter_27
      · replace hs := oq_neg c10 hs
        refine jr_iload_n ok 2 d_Se_valueLetter_17 rfl rfl ?_
        refine jr_aload_n ok 0 d_Se_valueLetter_18 rfl rfl ?_
        refine jr_iload_n ok 1 d_Se_valueLetter_19 rfl rfl ?_
        obtain ⟨r11, S11, hc11, hs⟩ := mb2_some hs
        refine jq_cV1 ok hR m_Se_52 (r_Se_valueLength (jx_l X) D g A c S v0 v1 r11 S11 hv0 hc11) (sg_atp (F := serW D A c S) 5 rfl hv0 0 rfl) rfl rfl rfl (Nat.le_of_ble_eq_true rfl) ⟨Nat.le_of_ble_eq_true rfl, Nat.le_of_ble_eq_true rfl⟩ ⟨Nat.zero_le _, Nat.zero_le _⟩ d_Se_valueLetter_20 ?_
        show jw X 0 0 (wtL D g A c S11) [(0, .ref (A.us v0 0)), (1, .int (ii v1)), (2, .int (ii v2))] 23 [.int (ii r11), .int (ii v2)]
        refine jr_wicmp_lt 28 ok rfl rfl d_Se_valueLetter_23 (by decide) (fun c12 => ?_) (fun c12 => ?_)
        · replace hs := oq_pos c12 hs
          refine jr_aload_n ok 0 d_Se_valueLetter_28 rfl rfl ?_
          refine jr_aload_n ok 0 d_Se_valueLetter_29 rfl rfl ?_
          refine jq_get (v := .ref (A.us v0 3)) ok f_Se_26 (sg_atp (F := serW D A c S11) 5 rfl hv0 0 rfl) rfl d_Se_valueLetter_30 ?_
          refine jr_iload_n ok 1 d_Se_valueLetter_33 rfl rfl ?_
          obtain ⟨hb13, hs⟩ := oq_if hs
          refine jq_iald ok (sg_atp (F := serW D A c S11) 5 rfl hv0 3 rfl) rfl hb13.1 hb13.2 d_Se_valueLetter_34 ?_
          refine jr_iconst ok d_Se_valueLetter_35 ?_
          refine jr_iadd ok d_Se_valueLetter_36 ?_
          refine jr_iload_n ok 2 d_Se_valueLetter_37 rfl rfl ?_
          refine jr_iadd ok d_Se_valueLetter_38 ?_
          obtain ⟨r14, S14, hc14, hs⟩ := mb2_some hs
          refine jq_cV1 ok hR m_Se_46 (r_Se_letterAt (jx_l X) D g A c S11 v0 (((S11.se_signs v0 v1) + 1) + v2) r14 S14 hv0 hc14) (sg_atp (F := serW D A c S11) 5 rfl hv0 0 rfl) rfl rfl rfl (Nat.le_of_ble_eq_true rfl) ⟨Nat.le_of_ble_eq_true rfl, Nat.le_of_ble_eq_true rfl⟩ ⟨Nat.zero_le _, Nat.zero_le _⟩ d_Se_valueLetter_39 ?_
          show jw X 0 0 (wtL D g A c S14) [(0, .ref (A.us v0 0)), (1, .int (ii v1)), (2, .int (ii v2))] 42 [.int (ii r14)]
          exact jm_iret (Lf := wtL D g A c) ok fin hs d_Se_valueLetter_42
        · replace hs := oq_neg c12 hs
          refine jr_iconst ok d_Se_valueLetter_26 ?_
          exact jm_iret (Lf := wtL D g A c) ok fin hs d_Se_valueLetter_27

def q_LR_wordEnd_27 (c : CW) (v1 : Int) (v2 : Int) (S : WS) : Option (Int × WS) := some (v1 + v2, S)

def q_LR_wordEnd_2 (c : CW) : Nat → Int → Int → WS → Option (Int × WS)
  | 0, _, _, _ => none
  | n + 1, v1, v2, S => if 24 ≤ w32 v2 then q_LR_wordEnd_27 c v1 v2 S else mb2 (s_Tp_byteAt c S (v1 + v2)) (fun r6 S6 => mb1 (s_LR_isWordByte r6) (fun r7 => if w32 r7 = 0 then q_LR_wordEnd_27 c v1 v2 S6 else (q_LR_wordEnd_2 c n) v1 (v2 + 1) S6))

def s_LR_wordEnd (c : CW) (S : WS) (v1 : Int) : Option (Int × WS) := q_LR_wordEnd_2 c fU v1 0 S
set_option maxHeartbeats 4000000 in
set_option maxRecDepth 100000 in
theorem r_LR_wordEnd (l : Launch) (D : jd_T) (g : Nat → Nat) (A : AW) (c : CW) (S : WS) (v1 : Int) (r : Int) (S9 : WS)  (hs : s_LR_wordEnd c S v1 = some (r, S9)) : jc_C l D y_LR_wordEnd b_LR_wordEnd 3 (some .int) { frames := 1, cells := 0, slots := 0, locals := 21 } [.ref (g 1), .int (ii v1)] (wtL D g A c S) (fun _ : Unit => (.returned (some (.int (ii r))), True, wtL D g A c S9)) := by
  refine jc_of rfl (Nat.le_of_ble_eq_true rfl) ?_
  intro X hl hR hN ok hnm fin
  subst hl
  have B_27 : ∀ (v1 : Int) (v2 : Int) (S : WS), q_LR_wordEnd_27 c v1 v2 S = some (r, S9) → jw X 0 0 (wtL D g A c S) [(1, .int (ii v1)), (2, .int (ii v2))] 27 [] := by
    intro v1 v2 S hs
    rw [q_LR_wordEnd_27] at hs
    refine jr_iload_n ok 0 d_LR_wordEnd_27 rfl rfl ?_
    refine jr_iload_n ok 1 d_LR_wordEnd_28 rfl rfl ?_
    refine jr_iadd ok d_LR_wordEnd_29 ?_
    exact jm_iret (Lf := wtL D g A c) ok fin hs d_LR_wordEnd_30
  have B_2 : ∀ (n2 : Nat), ∀ (v1 : Int) (v2 : Int) (S : WS), q_LR_wordEnd_2 c n2 v1 v2 S = some (r, S9) → jw X 0 0 (wtL D g A c S) [(0, .ref (g 1)), (1, .int (ii v1)), (2, .int (ii v2))] 2 [] := by
    intro n2
    induction n2 with
    | zero =>
      intro v1 v2 S hs
      rw [q_LR_wordEnd_2] at hs; cases hs
    | succ n2 ih2 =>
      intro v1 v2 S hs
      rw [q_LR_wordEnd_2] at hs
      refine jr_iload_n ok 2 d_LR_wordEnd_2 rfl rfl ?_
      refine jr_bipush ok d_LR_wordEnd_3 (by decide +kernel) ?_
      refine jr_wicmp_ge 27 ok rfl (show w32 24 = 24 by decide) d_LR_wordEnd_5 (by decide) (fun c5 => ?_) (fun c5 => ?_)
      · replace hs := oq_pos c5 hs
        exact jr_lv [1, 2] rfl (B_27 v1 v2 S hs)
      · replace hs := oq_neg c5 hs
        refine jr_aload_n ok 0 d_LR_wordEnd_8 rfl rfl ?_
        refine jr_iload_n ok 1 d_LR_wordEnd_9 rfl rfl ?_
        refine jr_iload_n ok 2 d_LR_wordEnd_10 rfl rfl ?_
        refine jr_iadd ok d_LR_wordEnd_11 ?_
        obtain ⟨r6, S6, hc6, hs⟩ := mb2_some hs
        refine jq_cV1 ok hR m_LR_52 (r_Tp_byteAt (jx_l X) D g A c S (v1 + v2) r6 S6  hc6) (sg_atk 1 rfl) rfl rfl rfl (Nat.le_of_ble_eq_true rfl) ⟨Nat.le_of_ble_eq_true rfl, Nat.le_of_ble_eq_true rfl⟩ ⟨Nat.zero_le _, Nat.zero_le _⟩ d_LR_wordEnd_12 ?_
        show jw X 0 0 (wtL D g A c S6) [(0, .ref (g 1)), (1, .int (ii v1)), (2, .int (ii v2))] 15 [.int (ii r6)]
        obtain ⟨r7, hc7, hs⟩ := mb1_some hs
        refine jr_mS1 ok hR m_LR_71 (r_LR_isWordByte (jx_l X) D r6 r7 hc7) rfl rfl (Nat.le_of_ble_eq_true rfl) ⟨Nat.le_of_ble_eq_true rfl, Nat.le_of_ble_eq_true rfl⟩ ⟨Nat.zero_le _, Nat.zero_le _⟩ d_LR_wordEnd_15 ?_
        show jw X 0 0 (wtL D g A c S6) [(0, .ref (g 1)), (1, .int (ii v1)), (2, .int (ii v2))] 18 [.int (ii r7)]
        refine jr_wif_eq 27 ok rfl d_LR_wordEnd_18 (by decide) (fun c8 => ?_) (fun c8 => ?_)
        · replace hs := oq_pos c8 hs
          exact jr_lv [1, 2] rfl (B_27 v1 v2 S6 hs)
        · replace hs := oq_neg c8 hs
          refine jr_iinc [(2, .int (ii (v2 + 1))), (0, .ref (g 1)), (1, .int (ii v1))] 2 ok d_LR_wordEnd_21 rfl (by rw [hN]; decide) rfl ?_
          refine jr_goto 2 ok d_LR_wordEnd_24 (by decide) ?_
          exact jr_lv [1, 2, 0] rfl (ih2 v1 (v2 + 1) S6 hs)
  show jw X 0 0 (wtL D g A c S) [(0, .ref (g 1)), (1, .int (ii v1))] 0 []
  rw [s_LR_wordEnd] at hs
  refine jr_iconst ok d_LR_wordEnd_0 ?_
  refine jr_istore_n [(2, .int (ii 0)), (0, .ref (g 1)), (1, .int (ii v1))] ok d_LR_wordEnd_1 rfl (by rw [hN]; decide) rfl ?_
  exact jr_lv [1, 2, 0] rfl (B_2 fU v1 0 S hs)

def s_Pt_remove (c : CW) (S : WS) (v0 : Nat) (v1 : Int) (v2 : Int) : Option (Unit × WS) := if w32 v1 < 0 then some ((), S) else if w32 v2 ≤ w32 v1 then some ((), S) else if w32 v2 ≤ w32 (S.pt_size v0) then mb2 (s_Pt_packedAmong c S v0 v1 v2) (fun r10 S10 => if (0 : Int) ≤ v2 ∧ (0 : Int) ≤ v1 ∧ (0 : Int) ≤ ((S10.pt_size v0) - v2) ∧ v2 + ((S10.pt_size v0) - v2) ≤ (c.pc v0 : Int) ∧ v1 + ((S10.pt_size v0) - v2) ≤ (c.pc v0 : Int) then if (0 : Int) ≤ v2 ∧ (0 : Int) ≤ v1 ∧ (0 : Int) ≤ ((S10.pt_size v0) - v2) ∧ v2 + ((S10.pt_size v0) - v2) ≤ (c.pv v0 : Int) ∧ v1 + ((S10.pt_size v0) - v2) ≤ (c.pv v0 : Int) then some ((), WS.w_pt_size (WS.w_pt_values (WS.w_pt_times (WS.w_pt_packed S10 (nU S10.pt_packed v0 ((S.pt_packed v0) - r10))) (nU S10.pt_times v0 (aC (S10.pt_times v0) v2 v1 ((S10.pt_size v0) - v2)))) (nU S10.pt_values v0 (aC (S10.pt_values v0) v2 v1 ((S10.pt_size v0) - v2)))) (nU S10.pt_size v0 ((S10.pt_size v0) - (v2 - v1)))) else none else none) else some ((), S)
set_option maxHeartbeats 4000000 in
set_option maxRecDepth 100000 in
theorem r_Pt_remove (l : Launch) (D : jd_T) (g : Nat → Nat) (A : AW) (c : CW) (S : WS) (v0 : Nat) (v1 : Int) (v2 : Int) (r : Unit) (S9 : WS) (hv0 : v0 < c.N) (hs : s_Pt_remove c S v0 v1 v2 = some (r, S9)) : jc_C l D y_Pt_remove b_Pt_remove 3 none { frames := 2, cells := 0, slots := 0, locals := 52 } [.ref (A.us v0 5), .int (ii v1), .int (ii v2)] (wtL D g A c S) (fun _ : Unit => (.returned (none), True, wtL D g A c S9)) := by
  refine jc_of rfl (Nat.le_of_ble_eq_true rfl) ?_
  intro X hl hR hN ok hnm fin
  subst hl
  show jw X 0 0 (wtL D g A c S) [(0, .ref (A.us v0 5)), (1, .int (ii v1)), (2, .int (ii v2))] 0 []
  rw [s_Pt_remove] at hs
  refine jr_iload_n ok 1 d_Pt_remove_0 rfl rfl ?_
  refine jr_wif_lt 17 ok rfl d_Pt_remove_1 (by decide) (fun c7 => ?_) (fun c7 => ?_)
  · replace hs := oq_pos c7 hs
    exact jm_vret (Lf := wtL D g A c) ok fin hs d_Pt_remove_17
  · replace hs := oq_neg c7 hs
    refine jr_iload_n ok 2 d_Pt_remove_4 rfl rfl ?_
    refine jr_iload_n ok 1 d_Pt_remove_5 rfl rfl ?_
    refine jr_wicmp_le 17 ok rfl rfl d_Pt_remove_6 (by decide) (fun c8 => ?_) (fun c8 => ?_)
    · replace hs := oq_pos c8 hs
      exact jm_vret (Lf := wtL D g A c) ok fin hs d_Pt_remove_17
    · replace hs := oq_neg c8 hs
      refine jr_iload_n ok 2 d_Pt_remove_9 rfl rfl ?_
      refine jr_aload_n ok 0 d_Pt_remove_10 rfl rfl ?_
      refine jq_get (v := .int (ii (S.pt_size v0))) ok f_Pt_24 (sg_atp (F := serW D A c S) 5 rfl hv0 5 rfl) rfl d_Pt_remove_11 ?_
      refine jr_wicmp_le 18 ok rfl rfl d_Pt_remove_14 (by decide) (fun c9 => ?_) (fun c9 => ?_)
      · replace hs := oq_pos c9 hs
        refine jr_aload_n ok 0 d_Pt_remove_18 rfl rfl ?_
        refine jr_dup rfl ok d_Pt_remove_19 ?_
        refine jq_get (v := .int (ii (S.pt_packed v0))) ok f_Pt_44 (sg_atp (F := serW D A c S) 5 rfl hv0 5 rfl) rfl d_Pt_remove_20 ?_
        refine jr_aload_n ok 0 d_Pt_remove_23 rfl rfl ?_
        refine jr_iload_n ok 1 d_Pt_remove_24 rfl rfl ?_
        refine jr_iload_n ok 2 d_Pt_remove_25 rfl rfl ?_
        obtain ⟨r10, S10, hc10, hs⟩ := mb2_some hs
        refine jq_cV1 ok hR m_Pt_50 (r_Pt_packedAmong (jx_l X) D g A c S v0 v1 v2 r10 S10 hv0 hc10) (sg_atp (F := serW D A c S) 5 rfl hv0 5 rfl) rfl rfl rfl (Nat.le_of_ble_eq_true rfl) ⟨Nat.le_of_ble_eq_true rfl, Nat.le_of_ble_eq_true rfl⟩ ⟨Nat.zero_le _, Nat.zero_le _⟩ d_Pt_remove_26 ?_
        show jw X 0 0 (wtL D g A c S10) [(0, .ref (A.us v0 5)), (1, .int (ii v1)), (2, .int (ii v2))] 29 [.int (ii r10), .int (ii (S.pt_packed v0)), .ref (A.us v0 5)]
        refine jr_isub ok d_Pt_remove_29 ?_
        refine jq_put (wtL D g A c (WS.w_pt_packed S10 (nU S10.pt_packed v0 ((S.pt_packed v0) - r10)))) ok f_Pt_44 (sg_atp (F := serW D A c S10) 5 rfl hv0 5 rfl) rfl rfl (Nat.le_of_ble_eq_true rfl) ⟨serW D A c (WS.w_pt_packed S10 (nU S10.pt_packed v0 ((S.pt_packed v0) - r10))), fun j hj => by simp only [serW, nU, if_neg hj, WS.w_pt_packed, WS.se_letters, WS.se_starts, WS.se_signs, WS.se_ends, WS.pt_times, WS.pt_values, WS.pt_size, WS.pt_packed, WS.pt_lastTime], by simp [serW, nU, WS.w_pt_packed, WS.se_letters, WS.se_starts, WS.se_signs, WS.se_ends, WS.pt_times, WS.pt_values, WS.pt_size, WS.pt_packed, WS.pt_lastTime] <;> rfl, rfl⟩ d_Pt_remove_30 ?_
        refine jr_aload_n ok 0 d_Pt_remove_33 rfl rfl ?_
        refine jq_get (v := .ref (A.us v0 6)) ok f_Pt_9 (sg_atp (F := serW D A c (WS.w_pt_packed S10 (nU S10.pt_packed v0 ((S.pt_packed v0) - r10)))) 5 rfl hv0 5 rfl) rfl d_Pt_remove_34 ?_
        refine jr_iload_n ok 2 d_Pt_remove_37 rfl rfl ?_
        refine jr_aload_n ok 0 d_Pt_remove_38 rfl rfl ?_
        refine jq_get (v := .ref (A.us v0 6)) ok f_Pt_9 (sg_atp (F := serW D A c (WS.w_pt_packed S10 (nU S10.pt_packed v0 ((S.pt_packed v0) - r10)))) 5 rfl hv0 5 rfl) rfl d_Pt_remove_39 ?_
        refine jr_iload_n ok 1 d_Pt_remove_42 rfl rfl ?_
        refine jr_aload_n ok 0 d_Pt_remove_43 rfl rfl ?_
        refine jq_get (v := .int (ii (S10.pt_size v0))) ok f_Pt_24 (sg_atp (F := serW D A c (WS.w_pt_packed S10 (nU S10.pt_packed v0 ((S.pt_packed v0) - r10)))) 5 rfl hv0 5 rfl) rfl d_Pt_remove_44 ?_
        refine jr_iload_n ok 2 d_Pt_remove_47 rfl rfl ?_
        refine jr_isub ok d_Pt_remove_48 ?_
        obtain ⟨hb11, hs⟩ := oq_if hs
        refine jq_copy1l (wtL D g A c (WS.w_pt_times (WS.w_pt_packed S10 (nU S10.pt_packed v0 ((S.pt_packed v0) - r10))) (nU S10.pt_times v0 (aC (S10.pt_times v0) v2 v1 ((S10.pt_size v0) - v2))))) ok hR w_726 w_406 w_405 w_18 (sg_atp (F := serW D A c (WS.w_pt_packed S10 (nU S10.pt_packed v0 ((S.pt_packed v0) - r10)))) 5 rfl hv0 6 rfl) rfl rfl hb11.1 hb11.2.1 hb11.2.2.1 hb11.2.2.2.1 hb11.2.2.2.2 (fun _ _ _ => rfl) ⟨Nat.le_of_ble_eq_true rfl, Nat.le_of_ble_eq_true rfl⟩ (Nat.le_of_ble_eq_true rfl) ⟨serW D A c (WS.w_pt_times (WS.w_pt_packed S10 (nU S10.pt_packed v0 ((S.pt_packed v0) - r10))) (nU S10.pt_times v0 (aC (S10.pt_times v0) v2 v1 ((S10.pt_size v0) - v2)))), fun j hj => by simp only [serW, nU, if_neg hj, WS.w_pt_packed, WS.w_pt_times, WS.se_letters, WS.se_starts, WS.se_signs, WS.se_ends, WS.pt_times, WS.pt_values, WS.pt_size, WS.pt_packed, WS.pt_lastTime], by simp [serW, nU, WS.w_pt_packed, WS.w_pt_times, WS.se_letters, WS.se_starts, WS.se_signs, WS.se_ends, WS.pt_times, WS.pt_values, WS.pt_size, WS.pt_packed, WS.pt_lastTime] <;> rfl, rfl⟩ d_Pt_remove_49 ?_
        refine jr_aload_n ok 0 d_Pt_remove_52 rfl rfl ?_
        refine jq_get (v := .ref (A.us v0 7)) ok f_Pt_15 (sg_atp (F := serW D A c (WS.w_pt_times (WS.w_pt_packed S10 (nU S10.pt_packed v0 ((S.pt_packed v0) - r10))) (nU S10.pt_times v0 (aC (S10.pt_times v0) v2 v1 ((S10.pt_size v0) - v2))))) 5 rfl hv0 5 rfl) rfl d_Pt_remove_53 ?_
        refine jr_iload_n ok 2 d_Pt_remove_56 rfl rfl ?_
        refine jr_aload_n ok 0 d_Pt_remove_57 rfl rfl ?_
        refine jq_get (v := .ref (A.us v0 7)) ok f_Pt_15 (sg_atp (F := serW D A c (WS.w_pt_times (WS.w_pt_packed S10 (nU S10.pt_packed v0 ((S.pt_packed v0) - r10))) (nU S10.pt_times v0 (aC (S10.pt_times v0) v2 v1 ((S10.pt_size v0) - v2))))) 5 rfl hv0 5 rfl) rfl d_Pt_remove_58 ?_
        refine jr_iload_n ok 1 d_Pt_remove_61 rfl rfl ?_
        refine jr_aload_n ok 0 d_Pt_remove_62 rfl rfl ?_
        refine jq_get (v := .int (ii (S10.pt_size v0))) ok f_Pt_24 (sg_atp (F := serW D A c (WS.w_pt_times (WS.w_pt_packed S10 (nU S10.pt_packed v0 ((S.pt_packed v0) - r10))) (nU S10.pt_times v0 (aC (S10.pt_times v0) v2 v1 ((S10.pt_size v0) - v2))))) 5 rfl hv0 5 rfl) rfl d_Pt_remove_63 ?_
        refine jr_iload_n ok 2 d_Pt_remove_66 rfl rfl ?_
        refine jr_isub ok d_Pt_remove_67 ?_
        obtain ⟨hb12, hs⟩ := oq_if hs
        refine jq_copy1l (wtL D g A c (WS.w_pt_values (WS.w_pt_times (WS.w_pt_packed S10 (nU S10.pt_packed v0 ((S.pt_packed v0) - r10))) (nU S10.pt_times v0 (aC (S10.pt_times v0) v2 v1 ((S10.pt_size v0) - v2)))) (nU S10.pt_values v0 (aC (S10.pt_values v0) v2 v1 ((S10.pt_size v0) - v2))))) ok hR w_726 w_406 w_405 w_18 (sg_atp (F := serW D A c (WS.w_pt_times (WS.w_pt_packed S10 (nU S10.pt_packed v0 ((S.pt_packed v0) - r10))) (nU S10.pt_times v0 (aC (S10.pt_times v0) v2 v1 ((S10.pt_size v0) - v2))))) 5 rfl hv0 7 rfl) rfl rfl hb12.1 hb12.2.1 hb12.2.2.1 hb12.2.2.2.1 hb12.2.2.2.2 (fun _ _ _ => rfl) ⟨Nat.le_of_ble_eq_true rfl, Nat.le_of_ble_eq_true rfl⟩ (Nat.le_of_ble_eq_true rfl) ⟨serW D A c (WS.w_pt_values (WS.w_pt_times (WS.w_pt_packed S10 (nU S10.pt_packed v0 ((S.pt_packed v0) - r10))) (nU S10.pt_times v0 (aC (S10.pt_times v0) v2 v1 ((S10.pt_size v0) - v2)))) (nU S10.pt_values v0 (aC (S10.pt_values v0) v2 v1 ((S10.pt_size v0) - v2)))), fun j hj => by simp only [serW, nU, if_neg hj, WS.w_pt_packed, WS.w_pt_times, WS.w_pt_values, WS.se_letters, WS.se_starts, WS.se_signs, WS.se_ends, WS.pt_times, WS.pt_values, WS.pt_size, WS.pt_packed, WS.pt_lastTime], by simp [serW, nU, WS.w_pt_packed, WS.w_pt_times, WS.w_pt_values, WS.se_letters, WS.se_starts, WS.se_signs, WS.se_ends, WS.pt_times, WS.pt_values, WS.pt_size, WS.pt_packed, WS.pt_lastTime] <;> rfl, rfl⟩ d_Pt_remove_68 ?_
        refine jr_aload_n ok 0 d_Pt_remove_71 rfl rfl ?_
        refine jr_dup rfl ok d_Pt_remove_72 ?_
        refine jq_get (v := .int (ii (S10.pt_size v0))) ok f_Pt_24 (sg_atp (F := serW D A c (WS.w_pt_values (WS.w_pt_times (WS.w_pt_packed S10 (nU S10.pt_packed v0 ((S.pt_packed v0) - r10))) (nU S10.pt_times v0 (aC (S10.pt_times v0) v2 v1 ((S10.pt_size v0) - v2)))) (nU S10.pt_values v0 (aC (S10.pt_values v0) v2 v1 ((S10.pt_size v0) - v2))))) 5 rfl hv0 5 rfl) rfl d_Pt_remove_73 ?_
        refine jr_iload_n ok 2 d_Pt_remove_76 rfl rfl ?_
        refine jr_iload_n ok 1 d_Pt_remove_77 rfl rfl ?_
        refine jr_isub ok d_Pt_remove_78 ?_
        refine jr_isub ok d_Pt_remove_79 ?_
        refine jq_put (wtL D g A c (WS.w_pt_size (WS.w_pt_values (WS.w_pt_times (WS.w_pt_packed S10 (nU S10.pt_packed v0 ((S.pt_packed v0) - r10))) (nU S10.pt_times v0 (aC (S10.pt_times v0) v2 v1 ((S10.pt_size v0) - v2)))) (nU S10.pt_values v0 (aC (S10.pt_values v0) v2 v1 ((S10.pt_size v0) - v2)))) (nU S10.pt_size v0 ((S10.pt_size v0) - (v2 - v1))))) ok f_Pt_24 (sg_atp (F := serW D A c (WS.w_pt_values (WS.w_pt_times (WS.w_pt_packed S10 (nU S10.pt_packed v0 ((S.pt_packed v0) - r10))) (nU S10.pt_times v0 (aC (S10.pt_times v0) v2 v1 ((S10.pt_size v0) - v2)))) (nU S10.pt_values v0 (aC (S10.pt_values v0) v2 v1 ((S10.pt_size v0) - v2))))) 5 rfl hv0 5 rfl) rfl rfl (Nat.le_of_ble_eq_true rfl) ⟨serW D A c (WS.w_pt_size (WS.w_pt_values (WS.w_pt_times (WS.w_pt_packed S10 (nU S10.pt_packed v0 ((S.pt_packed v0) - r10))) (nU S10.pt_times v0 (aC (S10.pt_times v0) v2 v1 ((S10.pt_size v0) - v2)))) (nU S10.pt_values v0 (aC (S10.pt_values v0) v2 v1 ((S10.pt_size v0) - v2)))) (nU S10.pt_size v0 ((S10.pt_size v0) - (v2 - v1)))), fun j hj => by simp only [serW, nU, if_neg hj, WS.w_pt_packed, WS.w_pt_times, WS.w_pt_values, WS.w_pt_size, WS.se_letters, WS.se_starts, WS.se_signs, WS.se_ends, WS.pt_times, WS.pt_values, WS.pt_size, WS.pt_packed, WS.pt_lastTime], by simp [serW, nU, WS.w_pt_packed, WS.w_pt_times, WS.w_pt_values, WS.w_pt_size, WS.se_letters, WS.se_starts, WS.se_signs, WS.se_ends, WS.pt_times, WS.pt_values, WS.pt_size, WS.pt_packed, WS.pt_lastTime] <;> rfl, rfl⟩ d_Pt_remove_80 ?_
        exact jm_vret (Lf := wtL D g A c) ok fin hs d_Pt_remove_83
      · replace hs := oq_neg c9 hs
        exact jm_vret (Lf := wtL D g A c) ok fin hs d_Pt_remove_17

def s_Pg_addName (c : CW) (S : WS) (v1 : Int) : Option (Unit × WS) := mb2 (s_Pg_countUp c S (v1 + 2)) (fun r2 S2 => some ((), S2))
set_option maxHeartbeats 4000000 in
set_option maxRecDepth 100000 in
theorem r_Pg_addName (l : Launch) (D : jd_T) (g : Nat → Nat) (A : AW) (c : CW) (S : WS) (v1 : Int) (r : Unit) (S9 : WS)  (hs : s_Pg_addName c S v1 = some (r, S9)) : jc_C l D y_Pg_addName b_Pg_addName 2 none { frames := 1, cells := 0, slots := 0, locals := 21 } [.ref (g 9), .int (ii v1)] (wtL D g A c S) (fun _ : Unit => (.returned (none), True, wtL D g A c S9)) := by
  refine jc_of rfl (Nat.le_of_ble_eq_true rfl) ?_
  intro X hl hR hN ok hnm fin
  subst hl
  show jw X 0 0 (wtL D g A c S) [(0, .ref (g 9)), (1, .int (ii v1))] 0 []
  rw [s_Pg_addName] at hs
  refine jr_aload_n ok 0 d_Pg_addName_0 rfl rfl ?_
  refine jr_iload_n ok 1 d_Pg_addName_1 rfl rfl ?_
  refine jr_iconst ok d_Pg_addName_2 ?_
  refine jr_iadd ok d_Pg_addName_3 ?_
  obtain ⟨r2, S2, hc2, hs⟩ := mb2_some hs
  refine jq_cV0 ok hR m_Pg_35 (r_Pg_countUp (jx_l X) D g A c S (v1 + 2) r2 S2  hc2) (sg_atk 11 rfl) rfl rfl rfl (Nat.le_of_ble_eq_true rfl) ⟨Nat.le_of_ble_eq_true rfl, Nat.le_of_ble_eq_true rfl⟩ ⟨Nat.zero_le _, Nat.zero_le _⟩ d_Pg_addName_4 ?_
  show jw X 0 0 (wtL D g A c S2) [(0, .ref (g 9)), (1, .int (ii v1))] 7 []
  exact jm_vret (Lf := wtL D g A c) ok fin hs d_Pg_addName_7

def s_Pg_namesOf (c : CW) (S : WS) (v1 : Int) : Option (Int × WS) := mb2 (s_Pg_get c S (v1 + 2)) (fun r2 S2 => some (r2, S2))
set_option maxHeartbeats 4000000 in
set_option maxRecDepth 100000 in
theorem r_Pg_namesOf (l : Launch) (D : jd_T) (g : Nat → Nat) (A : AW) (c : CW) (S : WS) (v1 : Int) (r : Int) (S9 : WS)  (hs : s_Pg_namesOf c S v1 = some (r, S9)) : jc_C l D y_Pg_namesOf b_Pg_namesOf 2 (some .int) { frames := 1, cells := 0, slots := 0, locals := 21 } [.ref (g 9), .int (ii v1)] (wtL D g A c S) (fun _ : Unit => (.returned (some (.int (ii r))), True, wtL D g A c S9)) := by
  refine jc_of rfl (Nat.le_of_ble_eq_true rfl) ?_
  intro X hl hR hN ok hnm fin
  subst hl
  show jw X 0 0 (wtL D g A c S) [(0, .ref (g 9)), (1, .int (ii v1))] 0 []
  rw [s_Pg_namesOf] at hs
  refine jr_aload_n ok 0 d_Pg_namesOf_0 rfl rfl ?_
  refine jr_iload_n ok 1 d_Pg_namesOf_1 rfl rfl ?_
  refine jr_iconst ok d_Pg_namesOf_2 ?_
  refine jr_iadd ok d_Pg_namesOf_3 ?_
  obtain ⟨r2, S2, hc2, hs⟩ := mb2_some hs
  refine jq_cV1 ok hR m_Pg_29 (r_Pg_get (jx_l X) D g A c S (v1 + 2) r2 S2  hc2) (sg_atk 11 rfl) rfl rfl rfl (Nat.le_of_ble_eq_true rfl) ⟨Nat.le_of_ble_eq_true rfl, Nat.le_of_ble_eq_true rfl⟩ ⟨Nat.zero_le _, Nat.zero_le _⟩ d_Pg_namesOf_4 ?_
  show jw X 0 0 (wtL D g A c S2) [(0, .ref (g 9)), (1, .int (ii v1))] 7 [.int (ii r2)]
  exact jm_iret (Lf := wtL D g A c) ok fin hs d_Pg_namesOf_7

def s_Pg_nameLength (c : CW) (S : WS) (v1 : Int) (v2 : Int) : Option (Int × WS) := mb2 (s_Pg_get c S (((v1 + 4) + (2 * v2)) + 1)) (fun r2 S2 => some (r2, S2))
set_option maxHeartbeats 4000000 in
set_option maxRecDepth 100000 in
theorem r_Pg_nameLength (l : Launch) (D : jd_T) (g : Nat → Nat) (A : AW) (c : CW) (S : WS) (v1 : Int) (v2 : Int) (r : Int) (S9 : WS)  (hs : s_Pg_nameLength c S v1 v2 = some (r, S9)) : jc_C l D y_Pg_nameLength b_Pg_nameLength 3 (some .int) { frames := 1, cells := 0, slots := 0, locals := 21 } [.ref (g 9), .int (ii v1), .int (ii v2)] (wtL D g A c S) (fun _ : Unit => (.returned (some (.int (ii r))), True, wtL D g A c S9)) := by
  refine jc_of rfl (Nat.le_of_ble_eq_true rfl) ?_
  intro X hl hR hN ok hnm fin
  subst hl
  show jw X 0 0 (wtL D g A c S) [(0, .ref (g 9)), (1, .int (ii v1)), (2, .int (ii v2))] 0 []
  rw [s_Pg_nameLength] at hs
  refine jr_aload_n ok 0 d_Pg_nameLength_0 rfl rfl ?_
  refine jr_iload_n ok 1 d_Pg_nameLength_1 rfl rfl ?_
  refine jr_iconst ok d_Pg_nameLength_2 ?_
  refine jr_iadd ok d_Pg_nameLength_3 ?_
  refine jr_iconst ok d_Pg_nameLength_4 ?_
  refine jr_iload_n ok 2 d_Pg_nameLength_5 rfl rfl ?_
  refine jr_imul ok d_Pg_nameLength_6 ?_
  refine jr_iadd ok d_Pg_nameLength_7 ?_
  refine jr_iconst ok d_Pg_nameLength_8 ?_
  refine jr_iadd ok d_Pg_nameLength_9 ?_
  obtain ⟨r2, S2, hc2, hs⟩ := mb2_some hs
  refine jq_cV1 ok hR m_Pg_29 (r_Pg_get (jx_l X) D g A c S (((v1 + 4) + (2 * v2)) + 1) r2 S2  hc2) (sg_atk 11 rfl) rfl rfl rfl (Nat.le_of_ble_eq_true rfl) ⟨Nat.le_of_ble_eq_true rfl, Nat.le_of_ble_eq_true rfl⟩ ⟨Nat.zero_le _, Nat.zero_le _⟩ d_Pg_nameLength_10 ?_
  show jw X 0 0 (wtL D g A c S2) [(0, .ref (g 9)), (1, .int (ii v1)), (2, .int (ii v2))] 13 [.int (ii r2)]
  exact jm_iret (Lf := wtL D g A c) ok fin hs d_Pg_nameLength_13

def q_Lx_readNumber_12 (c : CW) : Nat → WS → Option (Unit × WS)
  | 0, _ => none
  | n + 1, S => mb2 (s_Tp_size c S ) (fun r8 S8 => if w32 r8 ≤ w32 S.lx_behind then some ((), S8) else mb2 (s_Tp_byteAt c S8 S8.lx_behind) (fun r10 S10 => mb1 (s_Lx_isDigit r10) (fun r11 => if w32 r11 = 0 then some ((), S10) else mb2 (s_Tp_byteAt c S10 S10.lx_behind) (fun r13 S13 => if S13.lx_number.toInt ≤ (((ll 9223372036854775807) - (ll (w32 (r13 - 48)))) / (ll 10)).toInt then (q_Lx_readNumber_12 c n) (WS.w_lx_behind (WS.w_lx_number S13 ((S13.lx_number * (ll 10)) + (ll (w32 (r13 - 48))))) (S13.lx_behind + 1)) else some ((), WS.w_lx_kind S13 300)))))

def s_Lx_readNumber (c : CW) (S : WS)  : Option (Unit × WS) := q_Lx_readNumber_12 c fU (WS.w_lx_number (WS.w_lx_kind S 302) (ll 0))
set_option maxHeartbeats 4000000 in
set_option maxRecDepth 100000 in
theorem r_Lx_readNumber (l : Launch) (D : jd_T) (g : Nat → Nat) (A : AW) (c : CW) (S : WS)  (r : Unit) (S9 : WS)  (hs : s_Lx_readNumber c S  = some (r, S9)) : jc_C l D y_Lx_readNumber b_Lx_readNumber 2 none { frames := 1, cells := 0, slots := 0, locals := 21 } [.ref (g 11)] (wtL D g A c S) (fun _ : Unit => (.returned (none), True, wtL D g A c S9)) := by
  refine jc_of rfl (Nat.le_of_ble_eq_true rfl) ?_
  intro X hl hR hN ok hnm fin
  subst hl
  have B_12 : ∀ (n12 : Nat), ∀ (S : WS), q_Lx_readNumber_12 c n12 S = some (r, S9) → jw X 0 0 (wtL D g A c S) [(0, .ref (g 11))] 12 [] := by
    intro n12
    induction n12 with
    | zero =>
      intro S hs
      rw [q_Lx_readNumber_12] at hs; cases hs
    | succ n12 ih12 =>
      intro S hs
      rw [q_Lx_readNumber_12] at hs
      refine jr_aload_n ok 0 d_Lx_readNumber_12 rfl rfl ?_
      refine jr_get (v := .int (ii S.lx_behind)) ok 14 f_Lx_22 rfl rfl d_Lx_readNumber_13 ?_
      refine jr_aload_n ok 0 d_Lx_readNumber_16 rfl rfl ?_
      refine jr_get (v := .ref (g 1)) ok 14 f_Lx_9 rfl rfl d_Lx_readNumber_17 ?_
      obtain ⟨r8, S8, hc8, hs⟩ := mb2_some hs
      refine jq_cV1 ok hR m_Lx_32 (r_Tp_size (jx_l X) D g A c S  r8 S8  hc8) (sg_atk 1 rfl) rfl rfl rfl (Nat.le_of_ble_eq_true rfl) ⟨Nat.le_of_ble_eq_true rfl, Nat.le_of_ble_eq_true rfl⟩ ⟨Nat.zero_le _, Nat.zero_le _⟩ d_Lx_readNumber_20 ?_
      show jw X 0 0 (wtL D g A c S8) [(0, .ref (g 11))] 23 [.int (ii r8), .int (ii S.lx_behind)]
      refine jr_wicmp_ge 112 ok rfl rfl d_Lx_readNumber_23 (by decide) (fun c9 => ?_) (fun c9 => ?_)
      · replace hs := oq_pos c9 hs
        exact jm_vret (Lf := wtL D g A c) ok fin hs d_Lx_readNumber_112
      · replace hs := oq_neg c9 hs
        refine jr_aload_n ok 0 d_Lx_readNumber_26 rfl rfl ?_
        refine jr_get (v := .ref (g 1)) ok 14 f_Lx_9 rfl rfl d_Lx_readNumber_27 ?_
        refine jr_aload_n ok 0 d_Lx_readNumber_30 rfl rfl ?_
        refine jr_get (v := .int (ii S8.lx_behind)) ok 14 f_Lx_22 rfl rfl d_Lx_readNumber_31 ?_
        obtain ⟨r10, S10, hc10, hs⟩ := mb2_some hs
        refine jq_cV1 ok hR m_Lx_38 (r_Tp_byteAt (jx_l X) D g A c S8 S8.lx_behind r10 S10  hc10) (sg_atk 1 rfl) rfl rfl rfl (Nat.le_of_ble_eq_true rfl) ⟨Nat.le_of_ble_eq_true rfl, Nat.le_of_ble_eq_true rfl⟩ ⟨Nat.zero_le _, Nat.zero_le _⟩ d_Lx_readNumber_34 ?_
        show jw X 0 0 (wtL D g A c S10) [(0, .ref (g 11))] 37 [.int (ii r10)]
        obtain ⟨r11, hc11, hs⟩ := mb1_some hs
        refine jr_mS1 ok hR m_Lx_42 (r_Lx_isDigit (jx_l X) D r10 r11 hc11) rfl rfl (Nat.le_of_ble_eq_true rfl) ⟨Nat.le_of_ble_eq_true rfl, Nat.le_of_ble_eq_true rfl⟩ ⟨Nat.zero_le _, Nat.zero_le _⟩ d_Lx_readNumber_37 ?_
        show jw X 0 0 (wtL D g A c S10) [(0, .ref (g 11))] 40 [.int (ii r11)]
        refine jr_wif_eq 112 ok rfl d_Lx_readNumber_40 (by decide) (fun c12 => ?_) (fun c12 => ?_)
        · replace hs := oq_pos c12 hs
          exact jm_vret (Lf := wtL D g A c) ok fin hs d_Lx_readNumber_112
        · replace hs := oq_neg c12 hs
          refine jr_aload_n ok 0 d_Lx_readNumber_43 rfl rfl ?_
          refine jr_get (v := .ref (g 1)) ok 14 f_Lx_9 rfl rfl d_Lx_readNumber_44 ?_
          refine jr_aload_n ok 0 d_Lx_readNumber_47 rfl rfl ?_
          refine jr_get (v := .int (ii S10.lx_behind)) ok 14 f_Lx_22 rfl rfl d_Lx_readNumber_48 ?_
          obtain ⟨r13, S13, hc13, hs⟩ := mb2_some hs
          refine jq_cV1 ok hR m_Lx_38 (r_Tp_byteAt (jx_l X) D g A c S10 S10.lx_behind r13 S13  hc13) (sg_atk 1 rfl) rfl rfl rfl (Nat.le_of_ble_eq_true rfl) ⟨Nat.le_of_ble_eq_true rfl, Nat.le_of_ble_eq_true rfl⟩ ⟨Nat.zero_le _, Nat.zero_le _⟩ d_Lx_readNumber_51 ?_
          show jw X 0 0 (wtL D g A c S13) [(0, .ref (g 11))] 54 [.int (ii r13)]
          refine jr_bipush ok d_Lx_readNumber_54 (by decide +kernel) ?_
          refine jr_isub ok d_Lx_readNumber_56 ?_
          refine jr_istore_n [(1, .int (ii (r13 - 48))), (0, .ref (g 11))] ok d_Lx_readNumber_57 rfl (by rw [hN]; decide) rfl ?_
          refine jr_aload_n ok 1 d_Lx_readNumber_58 rfl rfl ?_
          refine jr_get (v := .long S13.lx_number) ok 14 f_Lx_25 rfl rfl d_Lx_readNumber_59 ?_
          refine jr_ldc2 (z := 9223372036854775807) ok w_780 (by decide +kernel) d_Lx_readNumber_62 ?_
          refine jr_iload_n ok 0 d_Lx_readNumber_65 rfl rfl ?_
          refine jr_wi2l ok rfl d_Lx_readNumber_66 ?_
          refine jr_lsubx ok d_Lx_readNumber_67 ?_
          refine jr_ldc2 (z := 10) ok w_781 (by decide +kernel) d_Lx_readNumber_68 ?_
          refine jr_ldivx ok d_Lx_readNumber_71 (by decide +kernel) ?_
          refine jr_lif_le 84 ok rfl rfl d_Lx_readNumber_72 d_Lx_readNumber_73 (by decide) (fun c14 => ?_) (fun c14 => ?_)
          · replace hs := oq_pos c14 hs
            refine jr_aload_n ok 1 d_Lx_readNumber_84 rfl rfl ?_
            refine jr_aload_n ok 1 d_Lx_readNumber_85 rfl rfl ?_
            refine jr_get (v := .long S13.lx_number) ok 14 f_Lx_25 rfl rfl d_Lx_readNumber_86 ?_
            refine jr_ldc2 (z := 10) ok w_781 (by decide +kernel) d_Lx_readNumber_89 ?_
            refine jr_lmulx ok d_Lx_readNumber_92 ?_
            refine jr_iload_n ok 0 d_Lx_readNumber_93 rfl rfl ?_
            refine jr_wi2l ok rfl d_Lx_readNumber_94 ?_
            refine jr_laddx ok d_Lx_readNumber_95 ?_
            refine jr_put (wtL D g A c (WS.w_lx_number S13 ((S13.lx_number * (ll 10)) + (ll (w32 (r13 - 48)))))) ok 14 f_Lx_25 rfl rfl rfl (Nat.le_of_ble_eq_true rfl) rfl d_Lx_readNumber_96 ?_
            refine jr_aload_n ok 1 d_Lx_readNumber_99 rfl rfl ?_
            refine jr_dup rfl ok d_Lx_readNumber_100 ?_
            refine jr_get (v := .int (ii S13.lx_behind)) ok 14 f_Lx_22 rfl rfl d_Lx_readNumber_101 ?_
            refine jr_iconst ok d_Lx_readNumber_104 ?_
            refine jr_iadd ok d_Lx_readNumber_105 ?_
            refine jr_put (wtL D g A c (WS.w_lx_behind (WS.w_lx_number S13 ((S13.lx_number * (ll 10)) + (ll (w32 (r13 - 48))))) (S13.lx_behind + 1))) ok 14 f_Lx_22 rfl rfl rfl (Nat.le_of_ble_eq_true rfl) rfl d_Lx_readNumber_106 ?_
            refine jr_goto 12 ok d_Lx_readNumber_109 (by decide) ?_
            exact jr_lv [1] rfl (ih12 (WS.w_lx_behind (WS.w_lx_number S13 ((S13.lx_number * (ll 10)) + (ll (w32 (r13 - 48))))) (S13.lx_behind + 1)) hs)
          · replace hs := oq_neg c14 hs
            refine jr_aload_n ok 1 d_Lx_readNumber_76 rfl rfl ?_
            refine jr_sipush ok d_Lx_readNumber_77 (by decide +kernel) ?_
            refine jr_put (wtL D g A c (WS.w_lx_kind S13 300)) ok 14 f_Lx_15 rfl rfl rfl (Nat.le_of_ble_eq_true rfl) rfl d_Lx_readNumber_80 ?_
            exact jm_vret (Lf := wtL D g A c) ok fin hs d_Lx_readNumber_83
  show jw X 0 0 (wtL D g A c S) [(0, .ref (g 11))] 0 []
  rw [s_Lx_readNumber] at hs
  refine jr_aload_n ok 0 d_Lx_readNumber_0 rfl rfl ?_
  refine jr_sipush ok d_Lx_readNumber_1 (by decide +kernel) ?_
  refine jr_put (wtL D g A c (WS.w_lx_kind S 302)) ok 14 f_Lx_15 rfl rfl rfl (Nat.le_of_ble_eq_true rfl) rfl d_Lx_readNumber_4 ?_
  refine jr_aload_n ok 0 d_Lx_readNumber_7 rfl rfl ?_
  refine jr_lconst (z := 0) ok d_Lx_readNumber_8 (by decide +kernel) ?_
  refine jr_put (wtL D g A c (WS.w_lx_number (WS.w_lx_kind S 302) (ll 0))) ok 14 f_Lx_25 rfl rfl rfl (Nat.le_of_ble_eq_true rfl) rfl d_Lx_readNumber_9 ?_
  exact jr_lv [0] rfl (B_12 fU (WS.w_lx_number (WS.w_lx_kind S 302) (ll 0)) hs)

def q_Lx_readSign_59 (c : CW) (t0 : Int) (t1 : Int) (S : WS) : Option (Unit × WS) := some ((), WS.w_lx_behind S (t1 + t0))

def q_Lx_readSign_44 (c : CW) (t0 : Int) (S : WS) : Option (Unit × WS) := if w32 t0 = 0 then q_Lx_readSign_59 c 1 S.lx_behind S else q_Lx_readSign_59 c 2 S.lx_behind S

def q_Lx_readSign_39 (c : CW)  (S : WS) : Option (Unit × WS) := q_Lx_readSign_44 c 1 S

def s_Lx_readSign (c : CW) (S : WS) (v1 : Int) (v2 : Int) : Option (Unit × WS) := mb1 (s_Lx_signKind v1 v2) (fun r7 => if w32 r7 = 305 then q_Lx_readSign_39 c (WS.w_lx_kind S r7) else if w32 r7 = 306 then q_Lx_readSign_39 c (WS.w_lx_kind S r7) else if w32 r7 = 307 then q_Lx_readSign_39 c (WS.w_lx_kind S r7) else q_Lx_readSign_44 c 0 (WS.w_lx_kind S r7))
set_option maxHeartbeats 4000000 in
set_option maxRecDepth 100000 in
theorem r_Lx_readSign (l : Launch) (D : jd_T) (g : Nat → Nat) (A : AW) (c : CW) (S : WS) (v1 : Int) (v2 : Int) (r : Unit) (S9 : WS)  (hs : s_Lx_readSign c S v1 v2 = some (r, S9)) : jc_C l D y_Lx_readSign b_Lx_readSign 4 none { frames := 1, cells := 0, slots := 0, locals := 21 } [.ref (g 11), .int (ii v1), .int (ii v2)] (wtL D g A c S) (fun _ : Unit => (.returned (none), True, wtL D g A c S9)) := by
  refine jc_of rfl (Nat.le_of_ble_eq_true rfl) ?_
  intro X hl hR hN ok hnm fin
  subst hl
  have B_59 : ∀ (t0 : Int) (t1 : Int) (S : WS), q_Lx_readSign_59 c t0 t1 S = some (r, S9) → jw X 0 0 (wtL D g A c S) [] 59 [.int (ii t0), .int (ii t1), .ref (g 11)] := by
    intro t0 t1 S hs
    rw [q_Lx_readSign_59] at hs
    refine jr_iadd ok d_Lx_readSign_59 ?_
    refine jr_put (wtL D g A c (WS.w_lx_behind S (t1 + t0))) ok 14 f_Lx_22 rfl rfl rfl (Nat.le_of_ble_eq_true rfl) rfl d_Lx_readSign_60 ?_
    exact jm_vret (Lf := wtL D g A c) ok fin hs d_Lx_readSign_63
  have B_44 : ∀ (t0 : Int) (S : WS), q_Lx_readSign_44 c t0 S = some (r, S9) → jw X 0 0 (wtL D g A c S) [(0, .ref (g 11))] 44 [.int (ii t0)] := by
    intro t0 S hs
    rw [q_Lx_readSign_44] at hs
    refine jr_istore_n [(3, .int (ii t0)), (0, .ref (g 11))] ok d_Lx_readSign_44 rfl (by rw [hN]; decide) rfl ?_
    refine jr_aload_n ok 1 d_Lx_readSign_45 rfl rfl ?_
    refine jr_dup rfl ok d_Lx_readSign_46 ?_
    refine jr_get (v := .int (ii S.lx_behind)) ok 14 f_Lx_22 rfl rfl d_Lx_readSign_47 ?_
    refine jr_iload_n ok 0 d_Lx_readSign_50 rfl rfl ?_
    refine jr_wif_eq 58 ok rfl d_Lx_readSign_51 (by decide) (fun c6 => ?_) (fun c6 => ?_)
    · replace hs := oq_pos c6 hs
      refine jr_iconst ok d_Lx_readSign_58 ?_
      exact jr_lv [] rfl (B_59 1 S.lx_behind S hs)
    · replace hs := oq_neg c6 hs
      refine jr_iconst ok d_Lx_readSign_54 ?_
      refine jr_goto 59 ok d_Lx_readSign_55 (by decide) ?_
      exact jr_lv [] rfl (B_59 2 S.lx_behind S hs)
  have B_39 : ∀ (S : WS), q_Lx_readSign_39 c S = some (r, S9) → jw X 0 0 (wtL D g A c S) [(0, .ref (g 11))] 39 [] := by
    intro S hs
    rw [q_Lx_readSign_39] at hs
    refine jr_iconst ok d_Lx_readSign_39 ?_
    refine jr_goto 44 ok d_Lx_readSign_40 (by decide) ?_
    exact jr_lv [0] rfl (B_44 1 S hs)
  show jw X 0 0 (wtL D g A c S) [(0, .ref (g 11)), (1, .int (ii v1)), (2, .int (ii v2))] 0 []
  rw [s_Lx_readSign] at hs
  refine jr_aload_n ok 0 d_Lx_readSign_0 rfl rfl ?_
  refine jr_iload_n ok 1 d_Lx_readSign_1 rfl rfl ?_
  refine jr_iload_n ok 2 d_Lx_readSign_2 rfl rfl ?_
  obtain ⟨r7, hc7, hs⟩ := mb1_some hs
  refine jr_mS1 ok hR m_Lx_69 (r_Lx_signKind (jx_l X) D v1 v2 r7 hc7) rfl rfl (Nat.le_of_ble_eq_true rfl) ⟨Nat.le_of_ble_eq_true rfl, Nat.le_of_ble_eq_true rfl⟩ ⟨Nat.zero_le _, Nat.zero_le _⟩ d_Lx_readSign_3 ?_
  show jw X 0 0 (wtL D g A c S) [(0, .ref (g 11)), (1, .int (ii v1)), (2, .int (ii v2))] 6 [.int (ii r7), .ref (g 11)]
  refine jr_put (wtL D g A c (WS.w_lx_kind S r7)) ok 14 f_Lx_15 rfl rfl rfl (Nat.le_of_ble_eq_true rfl) rfl d_Lx_readSign_6 ?_
  refine jr_aload_n ok 0 d_Lx_readSign_9 rfl rfl ?_
  refine jr_get (v := .int (ii r7)) ok 14 f_Lx_15 rfl rfl d_Lx_readSign_10 ?_
  refine jr_sipush ok d_Lx_readSign_13 (by decide +kernel) ?_
  refine jr_wicmp_eq 39 ok rfl (show w32 305 = 305 by decide) d_Lx_readSign_16 (by decide) (fun c8 => ?_) (fun c8 => ?_)
  · replace hs := oq_pos c8 hs
    exact jr_lv [0] rfl (B_39 (WS.w_lx_kind S r7) hs)
  · replace hs := oq_neg c8 hs
    refine jr_aload_n ok 0 d_Lx_readSign_19 rfl rfl ?_
    refine jr_get (v := .int (ii r7)) ok 14 f_Lx_15 rfl rfl d_Lx_readSign_20 ?_
    refine jr_sipush ok d_Lx_readSign_23 (by decide +kernel) ?_
    refine jr_wicmp_eq 39 ok rfl (show w32 306 = 306 by decide) d_Lx_readSign_26 (by decide) (fun c9 => ?_) (fun c9 => ?_)
    · replace hs := oq_pos c9 hs
      exact jr_lv [0] rfl (B_39 (WS.w_lx_kind S r7) hs)
    · replace hs := oq_neg c9 hs
      refine jr_aload_n ok 0 d_Lx_readSign_29 rfl rfl ?_
      refine jr_get (v := .int (ii r7)) ok 14 f_Lx_15 rfl rfl d_Lx_readSign_30 ?_
      refine jr_sipush ok d_Lx_readSign_33 (by decide +kernel) ?_
      refine jr_wicmp_ne 43 ok rfl (show w32 307 = 307 by decide) d_Lx_readSign_36 (by decide) (fun c10 => ?_) (fun c10 => ?_)
      · replace hs := oq_neg c10 hs
        refine jr_iconst ok d_Lx_readSign_43 ?_
        exact jr_lv [0] rfl (B_44 0 (WS.w_lx_kind S r7) hs)
      · replace hs := oq_pos c10 hs
        exact jr_lv [0] rfl (B_39 (WS.w_lx_kind S r7) hs)

def q_QR_refuse_40 (c : CW)  (S : WS) : Option (Unit × WS) := mb2 (s_Lx_stop c S ) (fun r7 S7 => some ((), S7))

def q_QR_refuse_26 (c : CW) (t0 : Int) (S : WS) : Option (Unit × WS) := mb2 (s_Lx_at c (WS.w_qr_faultCode S t0) ) (fun r6 S6 => q_QR_refuse_40 c (WS.w_qr_faultPlace S6 r6))

def s_QR_refuse (c : CW) (S : WS) (v1 : Int) : Option (Unit × WS) := if w32 S.qr_faultCode = 0 then mb2 (s_Lx_kind c S ) (fun r9 S9 => if w32 r9 = 300 then q_QR_refuse_26 c 1 S9 else q_QR_refuse_26 c v1 S9) else q_QR_refuse_40 c S
set_option maxHeartbeats 4000000 in
set_option maxRecDepth 100000 in
theorem r_QR_refuse (l : Launch) (D : jd_T) (g : Nat → Nat) (A : AW) (c : CW) (S : WS) (v1 : Int) (r : Unit) (S9 : WS)  (hs : s_QR_refuse c S v1 = some (r, S9)) : jc_C l D y_QR_refuse b_QR_refuse 2 none { frames := 1, cells := 0, slots := 0, locals := 20 } [.ref (g 10), .int (ii v1)] (wtL D g A c S) (fun _ : Unit => (.returned (none), True, wtL D g A c S9)) := by
  refine jc_of rfl (Nat.le_of_ble_eq_true rfl) ?_
  intro X hl hR hN ok hnm fin
  subst hl
  have B_40 : ∀ (S : WS), q_QR_refuse_40 c S = some (r, S9) → jw X 0 0 (wtL D g A c S) [(0, .ref (g 10))] 40 [] := by
    intro S hs
    rw [q_QR_refuse_40] at hs
    refine jr_aload_n ok 0 d_QR_refuse_40 rfl rfl ?_
    refine jr_get (v := .ref (g 11)) ok 13 f_QR_24 rfl rfl d_QR_refuse_41 ?_
    obtain ⟨r7, S7, hc7, hs⟩ := mb2_some hs
    refine jq_cV0 ok hR m_QR_64 (r_Lx_stop (jx_l X) D g A c S  r7 S7  hc7) (sg_atk 14 rfl) rfl rfl rfl (Nat.le_of_ble_eq_true rfl) ⟨Nat.le_of_ble_eq_true rfl, Nat.le_of_ble_eq_true rfl⟩ ⟨Nat.zero_le _, Nat.zero_le _⟩ d_QR_refuse_44 ?_
    show jw X 0 0 (wtL D g A c S7) [(0, .ref (g 10))] 47 []
    exact jm_vret (Lf := wtL D g A c) ok fin hs d_QR_refuse_47
  have B_26 : ∀ (t0 : Int) (S : WS), q_QR_refuse_26 c t0 S = some (r, S9) → jw X 0 0 (wtL D g A c S) [(0, .ref (g 10))] 26 [.int (ii t0), .ref (g 10)] := by
    intro t0 S hs
    rw [q_QR_refuse_26] at hs
    refine jr_put (wtL D g A c (WS.w_qr_faultCode S t0)) ok 13 f_QR_28 rfl rfl rfl (Nat.le_of_ble_eq_true rfl) rfl d_QR_refuse_26 ?_
    refine jr_aload_n ok 0 d_QR_refuse_29 rfl rfl ?_
    refine jr_aload_n ok 0 d_QR_refuse_30 rfl rfl ?_
    refine jr_get (v := .ref (g 11)) ok 13 f_QR_24 rfl rfl d_QR_refuse_31 ?_
    obtain ⟨r6, S6, hc6, hs⟩ := mb2_some hs
    refine jq_cV1 ok hR m_QR_61 (r_Lx_at (jx_l X) D g A c (WS.w_qr_faultCode S t0)  r6 S6  hc6) (sg_atk 14 rfl) rfl rfl rfl (Nat.le_of_ble_eq_true rfl) ⟨Nat.le_of_ble_eq_true rfl, Nat.le_of_ble_eq_true rfl⟩ ⟨Nat.zero_le _, Nat.zero_le _⟩ d_QR_refuse_34 ?_
    show jw X 0 0 (wtL D g A c S6) [(0, .ref (g 10))] 37 [.int (ii r6), .ref (g 10)]
    refine jr_put (wtL D g A c (WS.w_qr_faultPlace S6 r6)) ok 13 f_QR_32 rfl rfl rfl (Nat.le_of_ble_eq_true rfl) rfl d_QR_refuse_37 ?_
    exact jr_lv [0] rfl (B_40 (WS.w_qr_faultPlace S6 r6) hs)
  show jw X 0 0 (wtL D g A c S) [(0, .ref (g 10)), (1, .int (ii v1))] 0 []
  rw [s_QR_refuse] at hs
  refine jr_aload_n ok 0 d_QR_refuse_0 rfl rfl ?_
  refine jr_get (v := .int (ii S.qr_faultCode)) ok 13 f_QR_28 rfl rfl d_QR_refuse_1 ?_
  refine jr_wif_ne 40 ok rfl d_QR_refuse_4 (by decide) (fun c8 => ?_) (fun c8 => ?_)
  · replace hs := oq_neg c8 hs
    exact jr_lv [0] rfl (B_40 S hs)
  · replace hs := oq_pos c8 hs
    refine jr_aload_n ok 0 d_QR_refuse_7 rfl rfl ?_
    refine jr_aload_n ok 0 d_QR_refuse_8 rfl rfl ?_
    refine jr_get (v := .ref (g 11)) ok 13 f_QR_24 rfl rfl d_QR_refuse_9 ?_
    obtain ⟨r9, S9, hc9, hs⟩ := mb2_some hs
    refine jq_cV1 ok hR m_QR_53 (r_Lx_kind (jx_l X) D g A c S  r9 S9  hc9) (sg_atk 14 rfl) rfl rfl rfl (Nat.le_of_ble_eq_true rfl) ⟨Nat.le_of_ble_eq_true rfl, Nat.le_of_ble_eq_true rfl⟩ ⟨Nat.zero_le _, Nat.zero_le _⟩ d_QR_refuse_12 ?_
    show jw X 0 0 (wtL D g A c S9) [(0, .ref (g 10)), (1, .int (ii v1))] 15 [.int (ii r9), .ref (g 10)]
    refine jr_sipush ok d_QR_refuse_15 (by decide +kernel) ?_
    refine jr_wicmp_ne 25 ok rfl (show w32 300 = 300 by decide) d_QR_refuse_18 (by decide) (fun c10 => ?_) (fun c10 => ?_)
    · replace hs := oq_neg c10 hs
      refine jr_iload_n ok 1 d_QR_refuse_25 rfl rfl ?_
      exact jr_lv [0] rfl (B_26 v1 S9 hs)
    · replace hs := oq_pos c10 hs
      refine jr_iconst ok d_QR_refuse_21 ?_
      refine jr_goto 26 ok d_QR_refuse_22 (by decide) ?_
      exact jr_lv [0] rfl (B_26 1 S9 hs)

def s_Gd_numberAt (c : CW) (S : WS) (v0 : Nat) (v1 : Int) : Option (Int64 × WS) := mb2 (s_Gd_has c S v0 v1) (fun r5 S5 => if w32 r5 = 0 then some (ll 0, S5) else if w32 (c.gc v0) ≤ w32 v1 then some (ll 0, S5) else if (0 : Int) ≤ v1 ∧ v1 < (c.gc v0 : Int) then some (S5.gd_numbers v0 v1, S5) else none)
set_option maxHeartbeats 4000000 in
set_option maxRecDepth 100000 in
theorem r_Gd_numberAt (l : Launch) (D : jd_T) (g : Nat → Nat) (A : AW) (c : CW) (S : WS) (v0 : Nat) (v1 : Int) (r : Int64) (S9 : WS) (hv0 : v0 < 19) (hs : s_Gd_numberAt c S v0 v1 = some (r, S9)) : jc_C l D y_Gd_numberAt b_Gd_numberAt 2 (some .long) { frames := 1, cells := 0, slots := 0, locals := 21 } [.ref (g (19 + v0)), .int (ii v1)] (wtL D g A c S) (fun _ : Unit => (.returned (some (.long r)), True, wtL D g A c S9)) := by
  refine jc_of rfl (Nat.le_of_ble_eq_true rfl) ?_
  intro X hl hR hN ok hnm fin
  subst hl
  show jw X 0 0 (wtL D g A c S) [(0, .ref (g (19 + v0))), (1, .int (ii v1))] 0 []
  rw [s_Gd_numberAt] at hs
  refine jr_aload_n ok 0 d_Gd_numberAt_0 rfl rfl ?_
  refine jr_iload_n ok 1 d_Gd_numberAt_1 rfl rfl ?_
  obtain ⟨r5, S5, hc5, hs⟩ := mb2_some hs
  refine jq_cV1 ok hR m_Gd_39 (r_Gd_has (jx_l X) D g A c S v0 v1 r5 S5 hv0 hc5) (sg_atp (F := grdW D g A c S) 23 rfl hv0 0 rfl) rfl rfl rfl (Nat.le_of_ble_eq_true rfl) ⟨Nat.le_of_ble_eq_true rfl, Nat.le_of_ble_eq_true rfl⟩ ⟨Nat.zero_le _, Nat.zero_le _⟩ d_Gd_numberAt_2 ?_
  show jw X 0 0 (wtL D g A c S5) [(0, .ref (g (19 + v0))), (1, .int (ii v1))] 5 [.int (ii r5)]
  refine jr_wif_eq 26 ok rfl d_Gd_numberAt_5 (by decide) (fun c6 => ?_) (fun c6 => ?_)
  · replace hs := oq_pos c6 hs
    refine jr_lconst (z := 0) ok d_Gd_numberAt_26 (by decide +kernel) ?_
    exact jm_lret (Lf := wtL D g A c) ok fin hs d_Gd_numberAt_27
  · replace hs := oq_neg c6 hs
    refine jr_iload_n ok 1 d_Gd_numberAt_8 rfl rfl ?_
    refine jr_aload_n ok 0 d_Gd_numberAt_9 rfl rfl ?_
    refine jq_get (v := .ref (A.gn v0)) ok f_Gd_9 (sg_atp (F := grdW D g A c S5) 23 rfl hv0 0 rfl) rfl d_Gd_numberAt_10 ?_
    refine jq_alen_l ok (sg_atp (F := grdW D g A c S5) 23 rfl hv0 1 rfl) rfl d_Gd_numberAt_13 ?_
    refine jr_wicmp_ge 26 ok rfl rfl d_Gd_numberAt_14 (by decide) (fun c7 => ?_) (fun c7 => ?_)
    · replace hs := oq_pos c7 hs
      refine jr_lconst (z := 0) ok d_Gd_numberAt_26 (by decide +kernel) ?_
      exact jm_lret (Lf := wtL D g A c) ok fin hs d_Gd_numberAt_27
    · replace hs := oq_neg c7 hs
      refine jr_aload_n ok 0 d_Gd_numberAt_17 rfl rfl ?_
      refine jq_get (v := .ref (A.gn v0)) ok f_Gd_9 (sg_atp (F := grdW D g A c S5) 23 rfl hv0 0 rfl) rfl d_Gd_numberAt_18 ?_
      refine jr_iload_n ok 1 d_Gd_numberAt_21 rfl rfl ?_
      obtain ⟨hb8, hs⟩ := oq_if hs
      refine jq_lald ok (sg_atp (F := grdW D g A c S5) 23 rfl hv0 1 rfl) rfl hb8.1 hb8.2 d_Gd_numberAt_22 ?_
      refine jr_goto 27 ok d_Gd_numberAt_23 (by decide) ?_
      exact jm_lret (Lf := wtL D g A c) ok fin hs d_Gd_numberAt_27

def q_Ev_addMoment_71 (c : CW) (v2 : Nat) (v3 : Int) (v4 : Int64) (v6 : Int64) (S : WS) : Option (Unit × WS) := mb2 (s_Gd_put c S v2 v3 v6) (fun r16 S16 => if (0 : Int) ≤ v3 ∧ v3 < (c.mo : Int) then some ((), WS.w_ev_moments S16 (aU S16.ev_moments v3 v4)) else none)

def q_Ev_addMoment_56 (c : CW) (v2 : Nat) (v3 : Int) (v4 : Int64) (v6 : Int64) (t0 : Int) (S : WS) : Option (Unit × WS) := if w32 t0 = 0 then mb2 (s_Gd_has c S v2 v3) (fun r14 S14 => if w32 r14 = 0 then q_Ev_addMoment_71 c v2 v3 v4 v6 S14 else some ((), S14)) else q_Ev_addMoment_71 c v2 v3 v4 v6 S

def s_Ev_addMoment (c : CW) (S : WS) (v1 : Int) (v2 : Nat) (v3 : Int) (v4 : Int64) (v6 : Int64) : Option (Unit × WS) := if w32 v3 < 0 then some ((), S) else if w32 v3 < w32 c.mo then if w32 v1 = 5 then if (0 : Int) ≤ v3 ∧ v3 < (c.mo : Int) then if (S.ev_moments v3).toInt ≤ v4.toInt then q_Ev_addMoment_56 c v2 v3 v4 v6 0 S else q_Ev_addMoment_56 c v2 v3 v4 v6 1 S else none else if (0 : Int) ≤ v3 ∧ v3 < (c.mo : Int) then if v4.toInt ≤ (S.ev_moments v3).toInt then q_Ev_addMoment_56 c v2 v3 v4 v6 0 S else q_Ev_addMoment_56 c v2 v3 v4 v6 1 S else none else some ((), S)
set_option maxHeartbeats 4000000 in
set_option maxRecDepth 100000 in
theorem r_Ev_addMoment (l : Launch) (D : jd_T) (g : Nat → Nat) (A : AW) (c : CW) (S : WS) (v1 : Int) (v2 : Nat) (v3 : Int) (v4 : Int64) (v6 : Int64) (r : Unit) (S9 : WS) (hv2 : v2 < 19) (hs : s_Ev_addMoment c S v1 v2 v3 v4 v6 = some (r, S9)) : jc_C l D y_Ev_addMoment b_Ev_addMoment 9 none { frames := 1, cells := 0, slots := 0, locals := 23 } [.ref (g 17), .int (ii v1), .ref (g (19 + v2)), .int (ii v3), .long v4, .long v6] (wtL D g A c S) (fun _ : Unit => (.returned (none), True, wtL D g A c S9)) := by
  refine jc_of rfl (Nat.le_of_ble_eq_true rfl) ?_
  intro X hl hR hN ok hnm fin
  subst hl
  have B_71 : ∀ (v2 : Nat) (v3 : Int) (v4 : Int64) (v6 : Int64) (S : WS), v2 < 19 → q_Ev_addMoment_71 c v2 v3 v4 v6 S = some (r, S9) → jw X 0 0 (wtL D g A c S) [(0, .ref (g 17)), (2, .ref (g (19 + v2))), (3, .int (ii v3)), (4, .long v4), (6, .long v6)] 71 [] := by
    intro v2 v3 v4 v6 S hv2 hs
    rw [q_Ev_addMoment_71] at hs
    refine jr_aload_n ok 1 d_Ev_addMoment_71 rfl rfl ?_
    refine jr_iload_n ok 2 d_Ev_addMoment_72 rfl rfl ?_
    refine jr_lload ok 4 d_Ev_addMoment_73 rfl ?_
    obtain ⟨r16, S16, hc16, hs⟩ := mb2_some hs
    refine jq_cV0 ok hR m_Ev_107 (r_Gd_put (jx_l X) D g A c S v2 v3 v6 r16 S16 hv2 hc16) (sg_atp (F := grdW D g A c S) 23 rfl hv2 0 rfl) rfl rfl rfl (Nat.le_of_ble_eq_true rfl) ⟨Nat.le_of_ble_eq_true rfl, Nat.le_of_ble_eq_true rfl⟩ ⟨Nat.zero_le _, Nat.zero_le _⟩ d_Ev_addMoment_75 ?_
    show jw X 0 0 (wtL D g A c S16) [(0, .ref (g 17)), (2, .ref (g (19 + v2))), (3, .int (ii v3)), (4, .long v4), (6, .long v6)] 78 []
    refine jr_aload_n ok 0 d_Ev_addMoment_78 rfl rfl ?_
    refine jr_get (v := .ref A.ma) ok 20 f_Ev_17 rfl rfl d_Ev_addMoment_79 ?_
    refine jr_iload_n ok 2 d_Ev_addMoment_82 rfl rfl ?_
    refine jr_lload ok 3 d_Ev_addMoment_83 rfl ?_
    obtain ⟨hb17, hs⟩ := oq_if hs
    refine jr_last (wtL D g A c (WS.w_ev_moments S16 (aU S16.ev_moments v3 v4))) ok 22 rfl rfl hb17.1 hb17.2  rfl d_Ev_addMoment_85 ?_
    exact jm_vret (Lf := wtL D g A c) ok fin hs d_Ev_addMoment_86
  have B_56 : ∀ (v2 : Nat) (v3 : Int) (v4 : Int64) (v6 : Int64) (t0 : Int) (S : WS), v2 < 19 → q_Ev_addMoment_56 c v2 v3 v4 v6 t0 S = some (r, S9) → jw X 0 0 (wtL D g A c S) [(0, .ref (g 17)), (2, .ref (g (19 + v2))), (3, .int (ii v3)), (4, .long v4), (6, .long v6)] 56 [.int (ii t0)] := by
    intro v2 v3 v4 v6 t0 S hv2 hs
    rw [q_Ev_addMoment_56] at hs
    refine jr_istore [(8, .int (ii t0)), (0, .ref (g 17)), (2, .ref (g (19 + v2))), (3, .int (ii v3)), (4, .long v4), (6, .long v6)] ok d_Ev_addMoment_56 (by rw [hN]; decide) rfl ?_
    refine jr_iload ok 0 d_Ev_addMoment_58 rfl ?_
    refine jr_wif_ne 71 ok rfl d_Ev_addMoment_60 (by decide) (fun c13 => ?_) (fun c13 => ?_)
    · replace hs := oq_neg c13 hs
      exact jr_lv [1, 2, 3, 4, 5] rfl (B_71 v2 v3 v4 v6 S hv2 hs)
    · replace hs := oq_pos c13 hs
      refine jr_aload_n ok 2 d_Ev_addMoment_63 rfl rfl ?_
      refine jr_iload_n ok 3 d_Ev_addMoment_64 rfl rfl ?_
      obtain ⟨r14, S14, hc14, hs⟩ := mb2_some hs
      refine jq_cV1 ok hR m_Ev_114 (r_Gd_has (jx_l X) D g A c S v2 v3 r14 S14 hv2 hc14) (sg_atp (F := grdW D g A c S) 23 rfl hv2 0 rfl) rfl rfl rfl (Nat.le_of_ble_eq_true rfl) ⟨Nat.le_of_ble_eq_true rfl, Nat.le_of_ble_eq_true rfl⟩ ⟨Nat.zero_le _, Nat.zero_le _⟩ d_Ev_addMoment_65 ?_
      show jw X 0 0 (wtL D g A c S14) [(8, .int (ii t0)), (0, .ref (g 17)), (2, .ref (g (19 + v2))), (3, .int (ii v3)), (4, .long v4), (6, .long v6)] 68 [.int (ii r14)]
      refine jr_wif_ne 86 ok rfl d_Ev_addMoment_68 (by decide) (fun c15 => ?_) (fun c15 => ?_)
      · replace hs := oq_neg c15 hs
        exact jm_vret (Lf := wtL D g A c) ok fin hs d_Ev_addMoment_86
      · replace hs := oq_pos c15 hs
        exact jr_lv [1, 2, 3, 4, 5] rfl (B_71 v2 v3 v4 v6 S14 hv2 hs)
  show jw X 0 0 (wtL D g A c S) [(0, .ref (g 17)), (1, .int (ii v1)), (2, .ref (g (19 + v2))), (3, .int (ii v3)), (4, .long v4), (6, .long v6)] 0 []
  rw [s_Ev_addMoment] at hs
  refine jr_iload_n ok 3 d_Ev_addMoment_0 rfl rfl ?_
  refine jr_wif_lt 13 ok rfl d_Ev_addMoment_1 (by decide) (fun c18 => ?_) (fun c18 => ?_)
  · replace hs := oq_pos c18 hs
    exact jm_vret (Lf := wtL D g A c) ok fin hs d_Ev_addMoment_13
  · replace hs := oq_neg c18 hs
    refine jr_iload_n ok 3 d_Ev_addMoment_4 rfl rfl ?_
    refine jr_aload_n ok 0 d_Ev_addMoment_5 rfl rfl ?_
    refine jr_get (v := .ref A.ma) ok 20 f_Ev_17 rfl rfl d_Ev_addMoment_6 ?_
    refine jr_alen_l ok 22 rfl rfl d_Ev_addMoment_9 ?_
    refine jr_wicmp_lt 14 ok rfl rfl d_Ev_addMoment_10 (by decide) (fun c19 => ?_) (fun c19 => ?_)
    · replace hs := oq_pos c19 hs
      refine jr_iload_n ok 1 d_Ev_addMoment_14 rfl rfl ?_
      refine jr_iconst ok d_Ev_addMoment_15 ?_
      refine jr_wicmp_ne 39 ok rfl (show w32 5 = 5 by decide) d_Ev_addMoment_16 (by decide) (fun c20 => ?_) (fun c20 => ?_)
      · replace hs := oq_neg c20 hs
        refine jr_lload ok 4 d_Ev_addMoment_39 rfl ?_
        refine jr_aload_n ok 0 d_Ev_addMoment_41 rfl rfl ?_
        refine jr_get (v := .ref A.ma) ok 20 f_Ev_17 rfl rfl d_Ev_addMoment_42 ?_
        refine jr_iload_n ok 3 d_Ev_addMoment_45 rfl rfl ?_
        obtain ⟨hb21, hs⟩ := oq_if hs
        refine jr_lald ok 22 rfl rfl hb21.1 hb21.2 d_Ev_addMoment_46 ?_
        refine jr_lif_le 55 ok rfl rfl d_Ev_addMoment_47 d_Ev_addMoment_48 (by decide) (fun c22 => ?_) (fun c22 => ?_)
        · replace hs := oq_pos c22 hs
          refine jr_iconst ok d_Ev_addMoment_55 ?_
          exact jr_lv [0, 2, 3, 4, 5] rfl (B_56 v2 v3 v4 v6 0 S hv2 hs)
        · replace hs := oq_neg c22 hs
          refine jr_iconst ok d_Ev_addMoment_51 ?_
          refine jr_goto 56 ok d_Ev_addMoment_52 (by decide) ?_
          exact jr_lv [0, 2, 3, 4, 5] rfl (B_56 v2 v3 v4 v6 1 S hv2 hs)
      · replace hs := oq_pos c20 hs
        refine jr_lload ok 4 d_Ev_addMoment_19 rfl ?_
        refine jr_aload_n ok 0 d_Ev_addMoment_21 rfl rfl ?_
        refine jr_get (v := .ref A.ma) ok 20 f_Ev_17 rfl rfl d_Ev_addMoment_22 ?_
        refine jr_iload_n ok 3 d_Ev_addMoment_25 rfl rfl ?_
        obtain ⟨hb23, hs⟩ := oq_if hs
        refine jr_lald ok 22 rfl rfl hb23.1 hb23.2 d_Ev_addMoment_26 ?_
        refine jr_lif_ge 35 ok rfl rfl d_Ev_addMoment_27 d_Ev_addMoment_28 (by decide) (fun c24 => ?_) (fun c24 => ?_)
        · replace hs := oq_pos c24 hs
          refine jr_iconst ok d_Ev_addMoment_35 ?_
          refine jr_goto 56 ok d_Ev_addMoment_36 (by decide) ?_
          exact jr_lv [0, 2, 3, 4, 5] rfl (B_56 v2 v3 v4 v6 0 S hv2 hs)
        · replace hs := oq_neg c24 hs
          refine jr_iconst ok d_Ev_addMoment_31 ?_
          refine jr_goto 56 ok d_Ev_addMoment_32 (by decide) ?_
          exact jr_lv [0, 2, 3, 4, 5] rfl (B_56 v2 v3 v4 v6 1 S hv2 hs)
    · replace hs := oq_neg c19 hs
      exact jm_vret (Lf := wtL D g A c) ok fin hs d_Ev_addMoment_13

def q_Lx_readName_7 (c : CW) : Nat → WS → Option (Unit × WS)
  | 0, _ => none
  | n + 1, S => mb2 (s_Tp_size c S ) (fun r6 S6 => if w32 r6 ≤ w32 S.lx_behind then some ((), S6) else mb2 (s_Tp_byteAt c S6 S6.lx_behind) (fun r8 S8 => mb1 (s_Lx_isNameByte r8) (fun r9 => if w32 r9 = 0 then some ((), S8) else (q_Lx_readName_7 c n) (WS.w_lx_behind S8 (S8.lx_behind + 1)))))

def s_Lx_readName (c : CW) (S : WS)  : Option (Unit × WS) := q_Lx_readName_7 c fU (WS.w_lx_kind S 303)
set_option maxHeartbeats 4000000 in
set_option maxRecDepth 100000 in
theorem r_Lx_readName (l : Launch) (D : jd_T) (g : Nat → Nat) (A : AW) (c : CW) (S : WS)  (r : Unit) (S9 : WS)  (hs : s_Lx_readName c S  = some (r, S9)) : jc_C l D y_Lx_readName b_Lx_readName 1 none { frames := 1, cells := 0, slots := 0, locals := 21 } [.ref (g 11)] (wtL D g A c S) (fun _ : Unit => (.returned (none), True, wtL D g A c S9)) := by
  refine jc_of rfl (Nat.le_of_ble_eq_true rfl) ?_
  intro X hl hR hN ok hnm fin
  subst hl
  have B_7 : ∀ (n7 : Nat), ∀ (S : WS), q_Lx_readName_7 c n7 S = some (r, S9) → jw X 0 0 (wtL D g A c S) [(0, .ref (g 11))] 7 [] := by
    intro n7
    induction n7 with
    | zero =>
      intro S hs
      rw [q_Lx_readName_7] at hs; cases hs
    | succ n7 ih7 =>
      intro S hs
      rw [q_Lx_readName_7] at hs
      refine jr_aload_n ok 0 d_Lx_readName_7 rfl rfl ?_
      refine jr_get (v := .int (ii S.lx_behind)) ok 14 f_Lx_22 rfl rfl d_Lx_readName_8 ?_
      refine jr_aload_n ok 0 d_Lx_readName_11 rfl rfl ?_
      refine jr_get (v := .ref (g 1)) ok 14 f_Lx_9 rfl rfl d_Lx_readName_12 ?_
      obtain ⟨r6, S6, hc6, hs⟩ := mb2_some hs
      refine jq_cV1 ok hR m_Lx_32 (r_Tp_size (jx_l X) D g A c S  r6 S6  hc6) (sg_atk 1 rfl) rfl rfl rfl (Nat.le_of_ble_eq_true rfl) ⟨Nat.le_of_ble_eq_true rfl, Nat.le_of_ble_eq_true rfl⟩ ⟨Nat.zero_le _, Nat.zero_le _⟩ d_Lx_readName_15 ?_
      show jw X 0 0 (wtL D g A c S6) [(0, .ref (g 11))] 18 [.int (ii r6), .int (ii S.lx_behind)]
      refine jr_wicmp_ge 51 ok rfl rfl d_Lx_readName_18 (by decide) (fun c7 => ?_) (fun c7 => ?_)
      · replace hs := oq_pos c7 hs
        exact jm_vret (Lf := wtL D g A c) ok fin hs d_Lx_readName_51
      · replace hs := oq_neg c7 hs
        refine jr_aload_n ok 0 d_Lx_readName_21 rfl rfl ?_
        refine jr_get (v := .ref (g 1)) ok 14 f_Lx_9 rfl rfl d_Lx_readName_22 ?_
        refine jr_aload_n ok 0 d_Lx_readName_25 rfl rfl ?_
        refine jr_get (v := .int (ii S6.lx_behind)) ok 14 f_Lx_22 rfl rfl d_Lx_readName_26 ?_
        obtain ⟨r8, S8, hc8, hs⟩ := mb2_some hs
        refine jq_cV1 ok hR m_Lx_38 (r_Tp_byteAt (jx_l X) D g A c S6 S6.lx_behind r8 S8  hc8) (sg_atk 1 rfl) rfl rfl rfl (Nat.le_of_ble_eq_true rfl) ⟨Nat.le_of_ble_eq_true rfl, Nat.le_of_ble_eq_true rfl⟩ ⟨Nat.zero_le _, Nat.zero_le _⟩ d_Lx_readName_29 ?_
        show jw X 0 0 (wtL D g A c S8) [(0, .ref (g 11))] 32 [.int (ii r8)]
        obtain ⟨r9, hc9, hs⟩ := mb1_some hs
        refine jr_mS1 ok hR m_Lx_49 (r_Lx_isNameByte (jx_l X) D r8 r9 hc9) rfl rfl (Nat.le_of_ble_eq_true rfl) ⟨Nat.le_of_ble_eq_true rfl, Nat.le_of_ble_eq_true rfl⟩ ⟨Nat.zero_le _, Nat.zero_le _⟩ d_Lx_readName_32 ?_
        show jw X 0 0 (wtL D g A c S8) [(0, .ref (g 11))] 35 [.int (ii r9)]
        refine jr_wif_eq 51 ok rfl d_Lx_readName_35 (by decide) (fun c10 => ?_) (fun c10 => ?_)
        · replace hs := oq_pos c10 hs
          exact jm_vret (Lf := wtL D g A c) ok fin hs d_Lx_readName_51
        · replace hs := oq_neg c10 hs
          refine jr_aload_n ok 0 d_Lx_readName_38 rfl rfl ?_
          refine jr_dup rfl ok d_Lx_readName_39 ?_
          refine jr_get (v := .int (ii S8.lx_behind)) ok 14 f_Lx_22 rfl rfl d_Lx_readName_40 ?_
          refine jr_iconst ok d_Lx_readName_43 ?_
          refine jr_iadd ok d_Lx_readName_44 ?_
          refine jr_put (wtL D g A c (WS.w_lx_behind S8 (S8.lx_behind + 1))) ok 14 f_Lx_22 rfl rfl rfl (Nat.le_of_ble_eq_true rfl) rfl d_Lx_readName_45 ?_
          refine jr_goto 7 ok d_Lx_readName_48 (by decide) ?_
          exact jr_lv [0] rfl (ih7 (WS.w_lx_behind S8 (S8.lx_behind + 1)) hs)
  show jw X 0 0 (wtL D g A c S) [(0, .ref (g 11))] 0 []
  rw [s_Lx_readName] at hs
  refine jr_aload_n ok 0 d_Lx_readName_0 rfl rfl ?_
  refine jr_sipush ok d_Lx_readName_1 (by decide +kernel) ?_
  refine jr_put (wtL D g A c (WS.w_lx_kind S 303)) ok 14 f_Lx_15 rfl rfl rfl (Nat.le_of_ble_eq_true rfl) rfl d_Lx_readName_4 ?_
  exact jr_lv [0] rfl (B_7 fU (WS.w_lx_kind S 303) hs)

def s_Pg_addMatch (c : CW) (S : WS) (v1 : Int) : Option (Unit × WS) := mb2 (s_Pg_countUp c S (v1 + 3)) (fun r2 S2 => some ((), S2))
set_option maxHeartbeats 4000000 in
set_option maxRecDepth 100000 in
theorem r_Pg_addMatch (l : Launch) (D : jd_T) (g : Nat → Nat) (A : AW) (c : CW) (S : WS) (v1 : Int) (r : Unit) (S9 : WS)  (hs : s_Pg_addMatch c S v1 = some (r, S9)) : jc_C l D y_Pg_addMatch b_Pg_addMatch 2 none { frames := 1, cells := 0, slots := 0, locals := 21 } [.ref (g 9), .int (ii v1)] (wtL D g A c S) (fun _ : Unit => (.returned (none), True, wtL D g A c S9)) := by
  refine jc_of rfl (Nat.le_of_ble_eq_true rfl) ?_
  intro X hl hR hN ok hnm fin
  subst hl
  show jw X 0 0 (wtL D g A c S) [(0, .ref (g 9)), (1, .int (ii v1))] 0 []
  rw [s_Pg_addMatch] at hs
  refine jr_aload_n ok 0 d_Pg_addMatch_0 rfl rfl ?_
  refine jr_iload_n ok 1 d_Pg_addMatch_1 rfl rfl ?_
  refine jr_iconst ok d_Pg_addMatch_2 ?_
  refine jr_iadd ok d_Pg_addMatch_3 ?_
  obtain ⟨r2, S2, hc2, hs⟩ := mb2_some hs
  refine jq_cV0 ok hR m_Pg_35 (r_Pg_countUp (jx_l X) D g A c S (v1 + 3) r2 S2  hc2) (sg_atk 11 rfl) rfl rfl rfl (Nat.le_of_ble_eq_true rfl) ⟨Nat.le_of_ble_eq_true rfl, Nat.le_of_ble_eq_true rfl⟩ ⟨Nat.zero_le _, Nat.zero_le _⟩ d_Pg_addMatch_4 ?_
  show jw X 0 0 (wtL D g A c S2) [(0, .ref (g 9)), (1, .int (ii v1))] 7 []
  exact jm_vret (Lf := wtL D g A c) ok fin hs d_Pg_addMatch_7

def q_Se_isTheOneOf_16 (c : CW) : Nat → Nat → Int → WS → Option (Int × WS)
  | 0, _, _, _ => none
  | n + 1, v0, v2, S => if w32 (c.ln v0) ≤ w32 v2 then some (1, S) else if (0 : Int) ≤ v2 ∧ v2 < (c.ln v0 : Int) then mb2 (s_LR_letterAt c S v2) (fun r9 S9 => if w32 (S.se_letters v0 v2) = w32 r9 then (q_Se_isTheOneOf_16 c n) v0 (v2 + 1) S9 else some (0, S9)) else none

def s_Se_isTheOneOf (c : CW) (S : WS) (v0 : Nat) : Option (Int × WS) := mb2 (s_LR_length c S ) (fun r11 S11 => if w32 r11 = w32 (c.ln v0) then q_Se_isTheOneOf_16 c fU v0 0 S11 else some (0, S11))
set_option maxHeartbeats 4000000 in
set_option maxRecDepth 100000 in
theorem r_Se_isTheOneOf (l : Launch) (D : jd_T) (g : Nat → Nat) (A : AW) (c : CW) (S : WS) (v0 : Nat) (r : Int) (S9 : WS) (hv0 : v0 < c.N) (hs : s_Se_isTheOneOf c S v0 = some (r, S9)) : jc_C l D y_Se_isTheOneOf b_Se_isTheOneOf 3 (some .boolean) { frames := 1, cells := 0, slots := 0, locals := 21 } [.ref (A.us v0 0), .ref (g 4)] (wtL D g A c S) (fun _ : Unit => (.returned (some (.int (ii r))), True, wtL D g A c S9)) := by
  refine jc_of rfl (Nat.le_of_ble_eq_true rfl) ?_
  intro X hl hR hN ok hnm fin
  subst hl
  have B_16 : ∀ (n16 : Nat), ∀ (v0 : Nat) (v2 : Int) (S : WS), v0 < c.N → q_Se_isTheOneOf_16 c n16 v0 v2 S = some (r, S9) → jw X 0 0 (wtL D g A c S) [(0, .ref (A.us v0 0)), (1, .ref (g 4)), (2, .int (ii v2))] 16 [] := by
    intro n16
    induction n16 with
    | zero =>
      intro v0 v2 S hv0 hs
      rw [q_Se_isTheOneOf_16] at hs; cases hs
    | succ n16 ih16 =>
      intro v0 v2 S hv0 hs
      rw [q_Se_isTheOneOf_16] at hs
      refine jr_iload_n ok 2 d_Se_isTheOneOf_16 rfl rfl ?_
      refine jr_aload_n ok 0 d_Se_isTheOneOf_17 rfl rfl ?_
      refine jq_get (v := .ref (A.us v0 1)) ok f_Se_18 (sg_atp (F := serW D A c S) 5 rfl hv0 0 rfl) rfl d_Se_isTheOneOf_18 ?_
      refine jq_alen_i ok (sg_atp (F := serW D A c S) 5 rfl hv0 1 rfl) rfl d_Se_isTheOneOf_21 ?_
      refine jr_wicmp_ge 47 ok rfl rfl d_Se_isTheOneOf_22 (by decide) (fun c7 => ?_) (fun c7 => ?_)
      · replace hs := oq_pos c7 hs
        refine jr_iconst ok d_Se_isTheOneOf_47 ?_
        exact jm_zret (Lf := wtL D g A c) ok (by decide +kernel) fin hs d_Se_isTheOneOf_48
      · replace hs := oq_neg c7 hs
        refine jr_aload_n ok 0 d_Se_isTheOneOf_25 rfl rfl ?_
        refine jq_get (v := .ref (A.us v0 1)) ok f_Se_18 (sg_atp (F := serW D A c S) 5 rfl hv0 0 rfl) rfl d_Se_isTheOneOf_26 ?_
        refine jr_iload_n ok 2 d_Se_isTheOneOf_29 rfl rfl ?_
        obtain ⟨hb8, hs⟩ := oq_if hs
        refine jq_bald ok (sg_atp (F := serW D A c S) 5 rfl hv0 1 rfl) rfl hb8.1 hb8.2 d_Se_isTheOneOf_30 ?_
        refine jr_aload_n ok 1 d_Se_isTheOneOf_31 rfl rfl ?_
        refine jr_iload_n ok 2 d_Se_isTheOneOf_32 rfl rfl ?_
        obtain ⟨r9, S9, hc9, hs⟩ := mb2_some hs
        refine jq_cV1 ok hR m_Se_38 (r_LR_letterAt (jx_l X) D g A c S v2 r9 S9  hc9) (sg_atk 6 rfl) rfl rfl rfl (Nat.le_of_ble_eq_true rfl) ⟨Nat.le_of_ble_eq_true rfl, Nat.le_of_ble_eq_true rfl⟩ ⟨Nat.zero_le _, Nat.zero_le _⟩ d_Se_isTheOneOf_33 ?_
        show jw X 0 0 (wtL D g A c S9) [(0, .ref (A.us v0 0)), (1, .ref (g 4)), (2, .int (ii v2))] 36 [.int (ii r9), .int (ii (S.se_letters v0 v2))]
        refine jr_wicmp_eq 41 ok rfl rfl d_Se_isTheOneOf_36 (by decide) (fun c10 => ?_) (fun c10 => ?_)
        · replace hs := oq_pos c10 hs
          refine jr_iinc [(2, .int (ii (v2 + 1))), (0, .ref (A.us v0 0)), (1, .ref (g 4))] 2 ok d_Se_isTheOneOf_41 rfl (by rw [hN]; decide) rfl ?_
          refine jr_goto 16 ok d_Se_isTheOneOf_44 (by decide) ?_
          exact jr_lv [1, 2, 0] rfl (ih16 v0 (v2 + 1) S9 hv0 hs)
        · replace hs := oq_neg c10 hs
          refine jr_iconst ok d_Se_isTheOneOf_39 ?_
          exact jm_zret (Lf := wtL D g A c) ok (by decide +kernel) fin hs d_Se_isTheOneOf_40
  show jw X 0 0 (wtL D g A c S) [(0, .ref (A.us v0 0)), (1, .ref (g 4))] 0 []
  rw [s_Se_isTheOneOf] at hs
  refine jr_aload_n ok 1 d_Se_isTheOneOf_0 rfl rfl ?_
  obtain ⟨r11, S11, hc11, hs⟩ := mb2_some hs
  refine jq_cV1 ok hR m_Se_32 (r_LR_length (jx_l X) D g A c S  r11 S11  hc11) (sg_atk 6 rfl) rfl rfl rfl (Nat.le_of_ble_eq_true rfl) ⟨Nat.le_of_ble_eq_true rfl, Nat.le_of_ble_eq_true rfl⟩ ⟨Nat.zero_le _, Nat.zero_le _⟩ d_Se_isTheOneOf_1 ?_
  show jw X 0 0 (wtL D g A c S11) [(0, .ref (A.us v0 0)), (1, .ref (g 4))] 4 [.int (ii r11)]
  refine jr_aload_n ok 0 d_Se_isTheOneOf_4 rfl rfl ?_
  refine jq_get (v := .ref (A.us v0 1)) ok f_Se_18 (sg_atp (F := serW D A c S11) 5 rfl hv0 0 rfl) rfl d_Se_isTheOneOf_5 ?_
  refine jq_alen_i ok (sg_atp (F := serW D A c S11) 5 rfl hv0 1 rfl) rfl d_Se_isTheOneOf_8 ?_
  refine jr_wicmp_eq 14 ok rfl rfl d_Se_isTheOneOf_9 (by decide) (fun c12 => ?_) (fun c12 => ?_)
  · replace hs := oq_pos c12 hs
    refine jr_iconst ok d_Se_isTheOneOf_14 ?_
    refine jr_istore_n [(2, .int (ii 0)), (0, .ref (A.us v0 0)), (1, .ref (g 4))] ok d_Se_isTheOneOf_15 rfl (by rw [hN]; decide) rfl ?_
    exact jr_lv [1, 2, 0] rfl (B_16 fU v0 0 S11 hv0 hs)
  · replace hs := oq_neg c12 hs
    refine jr_iconst ok d_Se_isTheOneOf_12 ?_
    exact jm_zret (Lf := wtL D g A c) ok (by decide +kernel) fin hs d_Se_isTheOneOf_13

def q_Se_isOnTape_3 (c : CW) : Nat → Nat → Int → Int → Int → Int → WS → Option (Int × WS)
  | 0, _, _, _, _, _, _ => none
  | n + 1, v0, v1, v3, v4, v5, S => if w32 v4 ≤ w32 v5 then some (1, S) else mb2 (s_Se_letterAt c S v0 (v1 + v5)) (fun r6 S6 => mb2 (s_Tp_byteAt c S6 (v3 + v5)) (fun r7 S7 => if w32 r6 = w32 r7 then (q_Se_isOnTape_3 c n) v0 v1 v3 v4 (v5 + 1) S7 else some (0, S7)))

def s_Se_isOnTape (c : CW) (S : WS) (v0 : Nat) (v1 : Int) (v3 : Int) (v4 : Int) : Option (Int × WS) := q_Se_isOnTape_3 c fU v0 v1 v3 v4 0 S
set_option maxHeartbeats 4000000 in
set_option maxRecDepth 100000 in
theorem r_Se_isOnTape (l : Launch) (D : jd_T) (g : Nat → Nat) (A : AW) (c : CW) (S : WS) (v0 : Nat) (v1 : Int) (v3 : Int) (v4 : Int) (r : Int) (S9 : WS) (hv0 : v0 < c.N) (hs : s_Se_isOnTape c S v0 v1 v3 v4 = some (r, S9)) : jc_C l D y_Se_isOnTape b_Se_isOnTape 6 (some .boolean) { frames := 1, cells := 0, slots := 0, locals := 21 } [.ref (A.us v0 0), .int (ii v1), .ref (g 1), .int (ii v3), .int (ii v4)] (wtL D g A c S) (fun _ : Unit => (.returned (some (.int (ii r))), True, wtL D g A c S9)) := by
  refine jc_of rfl (Nat.le_of_ble_eq_true rfl) ?_
  intro X hl hR hN ok hnm fin
  subst hl
  have B_3 : ∀ (n3 : Nat), ∀ (v0 : Nat) (v1 : Int) (v3 : Int) (v4 : Int) (v5 : Int) (S : WS), v0 < c.N → q_Se_isOnTape_3 c n3 v0 v1 v3 v4 v5 S = some (r, S9) → jw X 0 0 (wtL D g A c S) [(0, .ref (A.us v0 0)), (1, .int (ii v1)), (2, .ref (g 1)), (3, .int (ii v3)), (4, .int (ii v4)), (5, .int (ii v5))] 3 [] := by
    intro n3
    induction n3 with
    | zero =>
      intro v0 v1 v3 v4 v5 S hv0 hs
      rw [q_Se_isOnTape_3] at hs; cases hs
    | succ n3 ih3 =>
      intro v0 v1 v3 v4 v5 S hv0 hs
      rw [q_Se_isOnTape_3] at hs
      refine jr_iload ok 5 d_Se_isOnTape_3 rfl ?_
      refine jr_iload ok 4 d_Se_isOnTape_5 rfl ?_
      refine jr_wicmp_ge 37 ok rfl rfl d_Se_isOnTape_7 (by decide) (fun c5 => ?_) (fun c5 => ?_)
      · replace hs := oq_pos c5 hs
        refine jr_iconst ok d_Se_isOnTape_37 ?_
        exact jm_zret (Lf := wtL D g A c) ok (by decide +kernel) fin hs d_Se_isOnTape_38
      · replace hs := oq_neg c5 hs
        refine jr_aload_n ok 0 d_Se_isOnTape_10 rfl rfl ?_
        refine jr_iload_n ok 1 d_Se_isOnTape_11 rfl rfl ?_
        refine jr_iload ok 5 d_Se_isOnTape_12 rfl ?_
        refine jr_iadd ok d_Se_isOnTape_14 ?_
        obtain ⟨r6, S6, hc6, hs⟩ := mb2_some hs
        refine jq_cV1 ok hR m_Se_46 (r_Se_letterAt (jx_l X) D g A c S v0 (v1 + v5) r6 S6 hv0 hc6) (sg_atp (F := serW D A c S) 5 rfl hv0 0 rfl) rfl rfl rfl (Nat.le_of_ble_eq_true rfl) ⟨Nat.le_of_ble_eq_true rfl, Nat.le_of_ble_eq_true rfl⟩ ⟨Nat.zero_le _, Nat.zero_le _⟩ d_Se_isOnTape_15 ?_
        show jw X 0 0 (wtL D g A c S6) [(0, .ref (A.us v0 0)), (1, .int (ii v1)), (2, .ref (g 1)), (3, .int (ii v3)), (4, .int (ii v4)), (5, .int (ii v5))] 18 [.int (ii r6)]
        refine jr_aload_n ok 2 d_Se_isOnTape_18 rfl rfl ?_
        refine jr_iload_n ok 3 d_Se_isOnTape_19 rfl rfl ?_
        refine jr_iload ok 5 d_Se_isOnTape_20 rfl ?_
        refine jr_iadd ok d_Se_isOnTape_22 ?_
        obtain ⟨r7, S7, hc7, hs⟩ := mb2_some hs
        refine jq_cV1 ok hR m_Se_47 (r_Tp_byteAt (jx_l X) D g A c S6 (v3 + v5) r7 S7  hc7) (sg_atk 1 rfl) rfl rfl rfl (Nat.le_of_ble_eq_true rfl) ⟨Nat.le_of_ble_eq_true rfl, Nat.le_of_ble_eq_true rfl⟩ ⟨Nat.zero_le _, Nat.zero_le _⟩ d_Se_isOnTape_23 ?_
        show jw X 0 0 (wtL D g A c S7) [(0, .ref (A.us v0 0)), (1, .int (ii v1)), (2, .ref (g 1)), (3, .int (ii v3)), (4, .int (ii v4)), (5, .int (ii v5))] 26 [.int (ii r7), .int (ii r6)]
        refine jr_wicmp_eq 31 ok rfl rfl d_Se_isOnTape_26 (by decide) (fun c8 => ?_) (fun c8 => ?_)
        · replace hs := oq_pos c8 hs
          refine jr_iinc [(5, .int (ii (v5 + 1))), (0, .ref (A.us v0 0)), (1, .int (ii v1)), (2, .ref (g 1)), (3, .int (ii v3)), (4, .int (ii v4))] 5 ok d_Se_isOnTape_31 rfl (by rw [hN]; decide) rfl ?_
          refine jr_goto 3 ok d_Se_isOnTape_34 (by decide) ?_
          exact jr_lv [1, 2, 3, 4, 5, 0] rfl (ih3 v0 v1 v3 v4 (v5 + 1) S7 hv0 hs)
        · replace hs := oq_neg c8 hs
          refine jr_iconst ok d_Se_isOnTape_29 ?_
          exact jm_zret (Lf := wtL D g A c) ok (by decide +kernel) fin hs d_Se_isOnTape_30
  show jw X 0 0 (wtL D g A c S) [(0, .ref (A.us v0 0)), (1, .int (ii v1)), (2, .ref (g 1)), (3, .int (ii v3)), (4, .int (ii v4))] 0 []
  rw [s_Se_isOnTape] at hs
  refine jr_iconst ok d_Se_isOnTape_0 ?_
  refine jr_istore [(5, .int (ii 0)), (0, .ref (A.us v0 0)), (1, .int (ii v1)), (2, .ref (g 1)), (3, .int (ii v3)), (4, .int (ii v4))] ok d_Se_isOnTape_1 (by rw [hN]; decide) rfl ?_
  exact jr_lv [1, 2, 3, 4, 5, 0] rfl (B_3 fU v0 v1 v3 v4 0 S hv0 hs)

def q_Lx_readQuoted_80 (c : CW) (t0 : Int) (S : WS) : Option (Unit × WS) := some ((), WS.w_lx_behind (WS.w_lx_kind S t0) (S.lx_behind + 1))

def q_Lx_readQuoted_54 (c : CW)  (S : WS) : Option (Unit × WS) := mb2 (s_Tp_byteAt c S S.lx_behind) (fun r13 S13 => if w32 r13 = 34 then q_Lx_readQuoted_80 c 304 S13 else q_Lx_readQuoted_80 c 300 S13)

def q_Lx_readQuoted_10 (c : CW) : Nat → WS → Option (Unit × WS)
  | 0, _ => none
  | n + 1, S => mb2 (s_Tp_size c S ) (fun r8 S8 => if w32 r8 ≤ w32 S.lx_behind then q_Lx_readQuoted_54 c S8 else mb2 (s_Tp_byteAt c S8 S8.lx_behind) (fun r10 S10 => mb1 (s_Lx_isQuotable r10) (fun r11 => if w32 r11 = 0 then q_Lx_readQuoted_54 c S10 else (q_Lx_readQuoted_10 c n) (WS.w_lx_behind S10 (S10.lx_behind + 1)))))

def s_Lx_readQuoted (c : CW) (S : WS)  : Option (Unit × WS) := q_Lx_readQuoted_10 c fU (WS.w_lx_behind S (S.lx_behind + 1))
set_option maxHeartbeats 4000000 in
set_option maxRecDepth 100000 in
theorem r_Lx_readQuoted (l : Launch) (D : jd_T) (g : Nat → Nat) (A : AW) (c : CW) (S : WS)  (r : Unit) (S9 : WS)  (hs : s_Lx_readQuoted c S  = some (r, S9)) : jc_C l D y_Lx_readQuoted b_Lx_readQuoted 1 none { frames := 1, cells := 0, slots := 0, locals := 21 } [.ref (g 11)] (wtL D g A c S) (fun _ : Unit => (.returned (none), True, wtL D g A c S9)) := by
  refine jc_of rfl (Nat.le_of_ble_eq_true rfl) ?_
  intro X hl hR hN ok hnm fin
  subst hl
  have B_80 : ∀ (t0 : Int) (S : WS), q_Lx_readQuoted_80 c t0 S = some (r, S9) → jw X 0 0 (wtL D g A c S) [(0, .ref (g 11))] 80 [.int (ii t0), .ref (g 11)] := by
    intro t0 S hs
    rw [q_Lx_readQuoted_80] at hs
    refine jr_put (wtL D g A c (WS.w_lx_kind S t0)) ok 14 f_Lx_15 rfl rfl rfl (Nat.le_of_ble_eq_true rfl) rfl d_Lx_readQuoted_80 ?_
    refine jr_aload_n ok 0 d_Lx_readQuoted_83 rfl rfl ?_
    refine jr_dup rfl ok d_Lx_readQuoted_84 ?_
    refine jr_get (v := .int (ii S.lx_behind)) ok 14 f_Lx_22 rfl rfl d_Lx_readQuoted_85 ?_
    refine jr_iconst ok d_Lx_readQuoted_88 ?_
    refine jr_iadd ok d_Lx_readQuoted_89 ?_
    refine jr_put (wtL D g A c (WS.w_lx_behind (WS.w_lx_kind S t0) (S.lx_behind + 1))) ok 14 f_Lx_22 rfl rfl rfl (Nat.le_of_ble_eq_true rfl) rfl d_Lx_readQuoted_90 ?_
    exact jm_vret (Lf := wtL D g A c) ok fin hs d_Lx_readQuoted_93
  have B_54 : ∀ (S : WS), q_Lx_readQuoted_54 c S = some (r, S9) → jw X 0 0 (wtL D g A c S) [(0, .ref (g 11))] 54 [] := by
    intro S hs
    rw [q_Lx_readQuoted_54] at hs
    refine jr_aload_n ok 0 d_Lx_readQuoted_54 rfl rfl ?_
    refine jr_aload_n ok 0 d_Lx_readQuoted_55 rfl rfl ?_
    refine jr_get (v := .ref (g 1)) ok 14 f_Lx_9 rfl rfl d_Lx_readQuoted_56 ?_
    refine jr_aload_n ok 0 d_Lx_readQuoted_59 rfl rfl ?_
    refine jr_get (v := .int (ii S.lx_behind)) ok 14 f_Lx_22 rfl rfl d_Lx_readQuoted_60 ?_
    obtain ⟨r13, S13, hc13, hs⟩ := mb2_some hs
    refine jq_cV1 ok hR m_Lx_38 (r_Tp_byteAt (jx_l X) D g A c S S.lx_behind r13 S13  hc13) (sg_atk 1 rfl) rfl rfl rfl (Nat.le_of_ble_eq_true rfl) ⟨Nat.le_of_ble_eq_true rfl, Nat.le_of_ble_eq_true rfl⟩ ⟨Nat.zero_le _, Nat.zero_le _⟩ d_Lx_readQuoted_63 ?_
    show jw X 0 0 (wtL D g A c S13) [(0, .ref (g 11))] 66 [.int (ii r13), .ref (g 11)]
    refine jr_bipush ok d_Lx_readQuoted_66 (by decide +kernel) ?_
    refine jr_wicmp_ne 77 ok rfl (show w32 34 = 34 by decide) d_Lx_readQuoted_68 (by decide) (fun c14 => ?_) (fun c14 => ?_)
    · replace hs := oq_neg c14 hs
      refine jr_sipush ok d_Lx_readQuoted_77 (by decide +kernel) ?_
      exact jr_lv [0] rfl (B_80 300 S13 hs)
    · replace hs := oq_pos c14 hs
      refine jr_sipush ok d_Lx_readQuoted_71 (by decide +kernel) ?_
      refine jr_goto 80 ok d_Lx_readQuoted_74 (by decide) ?_
      exact jr_lv [0] rfl (B_80 304 S13 hs)
  have B_10 : ∀ (n10 : Nat), ∀ (S : WS), q_Lx_readQuoted_10 c n10 S = some (r, S9) → jw X 0 0 (wtL D g A c S) [(0, .ref (g 11))] 10 [] := by
    intro n10
    induction n10 with
    | zero =>
      intro S hs
      rw [q_Lx_readQuoted_10] at hs; cases hs
    | succ n10 ih10 =>
      intro S hs
      rw [q_Lx_readQuoted_10] at hs
      refine jr_aload_n ok 0 d_Lx_readQuoted_10 rfl rfl ?_
      refine jr_get (v := .int (ii S.lx_behind)) ok 14 f_Lx_22 rfl rfl d_Lx_readQuoted_11 ?_
      refine jr_aload_n ok 0 d_Lx_readQuoted_14 rfl rfl ?_
      refine jr_get (v := .ref (g 1)) ok 14 f_Lx_9 rfl rfl d_Lx_readQuoted_15 ?_
      obtain ⟨r8, S8, hc8, hs⟩ := mb2_some hs
      refine jq_cV1 ok hR m_Lx_32 (r_Tp_size (jx_l X) D g A c S  r8 S8  hc8) (sg_atk 1 rfl) rfl rfl rfl (Nat.le_of_ble_eq_true rfl) ⟨Nat.le_of_ble_eq_true rfl, Nat.le_of_ble_eq_true rfl⟩ ⟨Nat.zero_le _, Nat.zero_le _⟩ d_Lx_readQuoted_18 ?_
      show jw X 0 0 (wtL D g A c S8) [(0, .ref (g 11))] 21 [.int (ii r8), .int (ii S.lx_behind)]
      refine jr_wicmp_ge 54 ok rfl rfl d_Lx_readQuoted_21 (by decide) (fun c9 => ?_) (fun c9 => ?_)
      · replace hs := oq_pos c9 hs
        exact jr_lv [0] rfl (B_54 S8 hs)
      · replace hs := oq_neg c9 hs
        refine jr_aload_n ok 0 d_Lx_readQuoted_24 rfl rfl ?_
        refine jr_get (v := .ref (g 1)) ok 14 f_Lx_9 rfl rfl d_Lx_readQuoted_25 ?_
        refine jr_aload_n ok 0 d_Lx_readQuoted_28 rfl rfl ?_
        refine jr_get (v := .int (ii S8.lx_behind)) ok 14 f_Lx_22 rfl rfl d_Lx_readQuoted_29 ?_
        obtain ⟨r10, S10, hc10, hs⟩ := mb2_some hs
        refine jq_cV1 ok hR m_Lx_38 (r_Tp_byteAt (jx_l X) D g A c S8 S8.lx_behind r10 S10  hc10) (sg_atk 1 rfl) rfl rfl rfl (Nat.le_of_ble_eq_true rfl) ⟨Nat.le_of_ble_eq_true rfl, Nat.le_of_ble_eq_true rfl⟩ ⟨Nat.zero_le _, Nat.zero_le _⟩ d_Lx_readQuoted_32 ?_
        show jw X 0 0 (wtL D g A c S10) [(0, .ref (g 11))] 35 [.int (ii r10)]
        obtain ⟨r11, hc11, hs⟩ := mb1_some hs
        refine jr_mS1 ok hR m_Lx_66 (r_Lx_isQuotable (jx_l X) D r10 r11 hc11) rfl rfl (Nat.le_of_ble_eq_true rfl) ⟨Nat.le_of_ble_eq_true rfl, Nat.le_of_ble_eq_true rfl⟩ ⟨Nat.zero_le _, Nat.zero_le _⟩ d_Lx_readQuoted_35 ?_
        show jw X 0 0 (wtL D g A c S10) [(0, .ref (g 11))] 38 [.int (ii r11)]
        refine jr_wif_eq 54 ok rfl d_Lx_readQuoted_38 (by decide) (fun c12 => ?_) (fun c12 => ?_)
        · replace hs := oq_pos c12 hs
          exact jr_lv [0] rfl (B_54 S10 hs)
        · replace hs := oq_neg c12 hs
          refine jr_aload_n ok 0 d_Lx_readQuoted_41 rfl rfl ?_
          refine jr_dup rfl ok d_Lx_readQuoted_42 ?_
          refine jr_get (v := .int (ii S10.lx_behind)) ok 14 f_Lx_22 rfl rfl d_Lx_readQuoted_43 ?_
          refine jr_iconst ok d_Lx_readQuoted_46 ?_
          refine jr_iadd ok d_Lx_readQuoted_47 ?_
          refine jr_put (wtL D g A c (WS.w_lx_behind S10 (S10.lx_behind + 1))) ok 14 f_Lx_22 rfl rfl rfl (Nat.le_of_ble_eq_true rfl) rfl d_Lx_readQuoted_48 ?_
          refine jr_goto 10 ok d_Lx_readQuoted_51 (by decide) ?_
          exact jr_lv [0] rfl (ih10 (WS.w_lx_behind S10 (S10.lx_behind + 1)) hs)
  show jw X 0 0 (wtL D g A c S) [(0, .ref (g 11))] 0 []
  rw [s_Lx_readQuoted] at hs
  refine jr_aload_n ok 0 d_Lx_readQuoted_0 rfl rfl ?_
  refine jr_dup rfl ok d_Lx_readQuoted_1 ?_
  refine jr_get (v := .int (ii S.lx_behind)) ok 14 f_Lx_22 rfl rfl d_Lx_readQuoted_2 ?_
  refine jr_iconst ok d_Lx_readQuoted_5 ?_
  refine jr_iadd ok d_Lx_readQuoted_6 ?_
  refine jr_put (wtL D g A c (WS.w_lx_behind S (S.lx_behind + 1))) ok 14 f_Lx_22 rfl rfl rfl (Nat.le_of_ble_eq_true rfl) rfl d_Lx_readQuoted_7 ?_
  exact jr_lv [0] rfl (B_10 fU (WS.w_lx_behind S (S.lx_behind + 1)) hs)

def q_St_seenPoints_34 (c : CW) (k4 : Int → Int → WS → Option (Int × WS)) (v2 : Int) (t0 : Int) (t1 : Int) (S : WS) : Option (Int × WS) := k4 (t1 + t0) (v2 + 1) S

def q_St_seenPoints_4 (c : CW) : Nat → Int → Int → WS → Option (Int × WS)
  | 0, _, _, _ => none
  | n + 1, v1, v2, S => if w32 (c.N : Int) ≤ w32 v2 then some (v1, S) else if ((0 : Int) ≤ v2 ∧ v2 < (c.N : Int)) ∧ c.N ≤ 256 then mb2 (s_Se_points c S v2.toNat) (fun r10 S10 => if r10 < c.N then mb2 (s_Pt_size c S10 r10) (fun r12 S12 => q_St_seenPoints_34 c (q_St_seenPoints_4 c n) v2 r12 v1 S12) else none) else none

def s_St_seenPoints (c : CW) (S : WS)  : Option (Int × WS) := q_St_seenPoints_4 c fU 0 0 S
set_option maxHeartbeats 4000000 in
set_option maxRecDepth 100000 in
theorem r_St_seenPoints (l : Launch) (D : jd_T) (g : Nat → Nat) (A : AW) (c : CW) (S : WS)  (r : Int) (S9 : WS)  (hs : s_St_seenPoints c S  = some (r, S9)) : jc_C l D y_St_seenPoints b_St_seenPoints 4 (some .int) { frames := 1, cells := 0, slots := 0, locals := 21 } [.ref (g 2)] (wtL D g A c S) (fun _ : Unit => (.returned (some (.int (ii r))), True, wtL D g A c S9)) := by
  refine jc_of rfl (Nat.le_of_ble_eq_true rfl) ?_
  intro X hl hR hN ok hnm fin
  subst hl
  have B_4 : ∀ (n4 : Nat), ∀ (v1 : Int) (v2 : Int) (S : WS), q_St_seenPoints_4 c n4 v1 v2 S = some (r, S9) → jw X 0 0 (wtL D g A c S) [(0, .ref (g 2)), (1, .int (ii v1)), (2, .int (ii v2))] 4 [] := by
    intro n4
    induction n4 with
    | zero =>
      intro v1 v2 S hs
      rw [q_St_seenPoints_4] at hs; cases hs
    | succ n4 ih4 =>
      have B_34 : ∀ (v2 : Int) (t0 : Int) (t1 : Int) (S : WS), q_St_seenPoints_34 c (q_St_seenPoints_4 c n4) v2 t0 t1 S = some (r, S9) → jw X 0 0 (wtL D g A c S) [(0, .ref (g 2)), (2, .int (ii v2))] 34 [.int (ii t0), .int (ii t1)] := by
        intro v2 t0 t1 S hs
        rw [q_St_seenPoints_34] at hs
        refine jr_iadd ok d_St_seenPoints_34 ?_
        refine jr_istore_n [(1, .int (ii (t1 + t0))), (0, .ref (g 2)), (2, .int (ii v2))] ok d_St_seenPoints_35 rfl (by rw [hN]; decide) rfl ?_
        refine jr_iinc [(2, .int (ii (v2 + 1))), (1, .int (ii (t1 + t0))), (0, .ref (g 2))] 2 ok d_St_seenPoints_36 rfl (by rw [hN]; decide) rfl ?_
        refine jr_goto 4 ok d_St_seenPoints_39 (by decide) ?_
        exact jr_lv [2, 1, 0] rfl (ih4 (t1 + t0) (v2 + 1) S hs)
      intro v1 v2 S hs
      rw [q_St_seenPoints_4] at hs
      refine jr_iload_n ok 2 d_St_seenPoints_4 rfl rfl ?_
      refine jr_aload_n ok 0 d_St_seenPoints_5 rfl rfl ?_
      refine jr_get (v := .int (ii (c.N : Int))) ok 3 f_St_17 rfl rfl d_St_seenPoints_6 ?_
      refine jr_wicmp_ge 42 ok rfl rfl d_St_seenPoints_9 (by decide) (fun c7 => ?_) (fun c7 => ?_)
      · replace hs := oq_pos c7 hs
        refine jr_iload_n ok 1 d_St_seenPoints_42 rfl rfl ?_
        exact jm_iret (Lf := wtL D g A c) ok fin hs d_St_seenPoints_43
      · replace hs := oq_neg c7 hs
        refine jr_aload_n ok 0 d_St_seenPoints_12 rfl rfl ?_
        refine jr_iload_n ok 2 d_St_seenPoints_13 rfl rfl ?_
        obtain ⟨hb9, hs⟩ := oq_if hs
        refine jq_cV1 ok hR m_St_21 (r_St_find (jx_l X) D g A c S v2 hb9) (sg_atk 3 rfl) rfl rfl rfl (Nat.le_of_ble_eq_true rfl) ⟨Nat.le_of_ble_eq_true rfl, Nat.le_of_ble_eq_true rfl⟩ ⟨Nat.zero_le _, Nat.zero_le _⟩ d_St_seenPoints_14 ?_
        show jw X 0 0 (wtL D g A c S) [(0, .ref (g 2)), (1, .int (ii v1)), (2, .int (ii v2))] 17 [.ref (A.us v2.toNat 0)]
        refine jr_astore_n [(3, .ref (A.us v2.toNat 0)), (0, .ref (g 2)), (1, .int (ii v1)), (2, .int (ii v2))] ok d_St_seenPoints_17 rfl (by rw [hN]; decide) rfl ?_
        refine jr_iload_n ok 2 d_St_seenPoints_18 rfl rfl ?_
        refine jr_aload_n ok 0 d_St_seenPoints_19 rfl rfl ?_
        refine jr_ifnonnull_r 27 ok d_St_seenPoints_20 (by decide) ?_
        refine jr_aload_n ok 0 d_St_seenPoints_27 rfl rfl ?_
        obtain ⟨r10, S10, hc10, hs⟩ := mb2_some hs
        refine jq_cV1 ok hR m_St_46 (r_Se_points (jx_l X) D g A c S v2.toNat r10 S10 (idx_lt hb9.1.1 hb9.1.2) hc10) (sg_atp (F := serW D A c S) 5 rfl (idx_lt hb9.1.1 hb9.1.2) 0 rfl) rfl rfl rfl (Nat.le_of_ble_eq_true rfl) ⟨Nat.le_of_ble_eq_true rfl, Nat.le_of_ble_eq_true rfl⟩ ⟨Nat.zero_le _, Nat.zero_le _⟩ d_St_seenPoints_28 ?_
        obtain ⟨hb11, hs⟩ := oq_if hs
        show jw X 0 0 (wtL D g A c S10) [(3, .ref (A.us v2.toNat 0)), (0, .ref (g 2)), (1, .int (ii v1)), (2, .int (ii v2))] 31 [.ref (A.us r10 5), .int (ii v1)]
        obtain ⟨r12, S12, hc12, hs⟩ := mb2_some hs
        refine jq_cV1 ok hR m_St_50 (r_Pt_size (jx_l X) D g A c S10 r10 r12 S12 hb11 hc12) (sg_atp (F := serW D A c S10) 5 rfl hb11 5 rfl) rfl rfl rfl (Nat.le_of_ble_eq_true rfl) ⟨Nat.le_of_ble_eq_true rfl, Nat.le_of_ble_eq_true rfl⟩ ⟨Nat.zero_le _, Nat.zero_le _⟩ d_St_seenPoints_31 ?_
        show jw X 0 0 (wtL D g A c S12) [(3, .ref (A.us v2.toNat 0)), (0, .ref (g 2)), (1, .int (ii v1)), (2, .int (ii v2))] 34 [.int (ii r12), .int (ii v1)]
        exact jr_lv [1, 3] rfl (B_34 v2 r12 v1 S12 hs)
  show jw X 0 0 (wtL D g A c S) [(0, .ref (g 2))] 0 []
  rw [s_St_seenPoints] at hs
  refine jr_iconst ok d_St_seenPoints_0 ?_
  refine jr_istore_n [(1, .int (ii 0)), (0, .ref (g 2))] ok d_St_seenPoints_1 rfl (by rw [hN]; decide) rfl ?_
  refine jr_iconst ok d_St_seenPoints_2 ?_
  refine jr_istore_n [(2, .int (ii 0)), (1, .int (ii 0)), (0, .ref (g 2))] ok d_St_seenPoints_3 rfl (by rw [hN]; decide) rfl ?_
  exact jr_lv [2, 1, 0] rfl (B_4 fU 0 0 S hs)

def s_St_mayCome (c : CW) (S : WS) (v1 : Nat) (v2 : Int64) : Option (Int × WS) := mb2 (s_St_isTime c S v2) (fun r6 S6 => if w32 r6 = 0 then some (0, S6) else mb2 (s_Pt_lastTime c S6 v1) (fun r8 S8 => if v2.toInt ≤ r8.toInt then some (0, S8) else if v2.toInt < S8.st_horizon.toInt then some (0, S8) else some (1, S8)))
set_option maxHeartbeats 4000000 in
set_option maxRecDepth 100000 in
theorem r_St_mayCome (l : Launch) (D : jd_T) (g : Nat → Nat) (A : AW) (c : CW) (S : WS) (v1 : Nat) (v2 : Int64) (r : Int) (S9 : WS) (hv1 : v1 < c.N) (hs : s_St_mayCome c S v1 v2 = some (r, S9)) : jc_C l D y_St_mayCome b_St_mayCome 4 (some .boolean) { frames := 1, cells := 0, slots := 0, locals := 22 } [.ref (g 2), .ref (A.us v1 5), .long v2] (wtL D g A c S) (fun _ : Unit => (.returned (some (.int (ii r))), True, wtL D g A c S9)) := by
  refine jc_of rfl (Nat.le_of_ble_eq_true rfl) ?_
  intro X hl hR hN ok hnm fin
  subst hl
  show jw X 0 0 (wtL D g A c S) [(0, .ref (g 2)), (1, .ref (A.us v1 5)), (2, .long v2)] 0 []
  rw [s_St_mayCome] at hs
  refine jr_aload_n ok 0 d_St_mayCome_0 rfl rfl ?_
  refine jr_lload_n ok 2 d_St_mayCome_1 rfl rfl ?_
  obtain ⟨r6, S6, hc6, hs⟩ := mb2_some hs
  refine jq_cV1 ok hR m_St_57 (r_St_isTime (jx_l X) D g A c S v2 r6 S6  hc6) (sg_atk 3 rfl) rfl rfl rfl (Nat.le_of_ble_eq_true rfl) ⟨Nat.le_of_ble_eq_true rfl, Nat.le_of_ble_eq_true rfl⟩ ⟨Nat.zero_le _, Nat.zero_le _⟩ d_St_mayCome_2 ?_
  show jw X 0 0 (wtL D g A c S6) [(0, .ref (g 2)), (1, .ref (A.us v1 5)), (2, .long v2)] 5 [.int (ii r6)]
  refine jr_wif_eq 30 ok rfl d_St_mayCome_5 (by decide) (fun c7 => ?_) (fun c7 => ?_)
  · replace hs := oq_pos c7 hs
    refine jr_iconst ok d_St_mayCome_30 ?_
    exact jm_zret (Lf := wtL D g A c) ok (by decide +kernel) fin hs d_St_mayCome_31
  · replace hs := oq_neg c7 hs
    refine jr_lload_n ok 2 d_St_mayCome_8 rfl rfl ?_
    refine jr_aload_n ok 1 d_St_mayCome_9 rfl rfl ?_
    obtain ⟨r8, S8, hc8, hs⟩ := mb2_some hs
    refine jq_cV1 ok hR m_St_61 (r_Pt_lastTime (jx_l X) D g A c S6 v1 r8 S8 hv1 hc8) (sg_atp (F := serW D A c S6) 5 rfl hv1 5 rfl) rfl rfl rfl (Nat.le_of_ble_eq_true rfl) ⟨Nat.le_of_ble_eq_true rfl, Nat.le_of_ble_eq_true rfl⟩ ⟨Nat.zero_le _, Nat.zero_le _⟩ d_St_mayCome_10 ?_
    show jw X 0 0 (wtL D g A c S8) [(0, .ref (g 2)), (1, .ref (A.us v1 5)), (2, .long v2)] 13 [.long r8, .long v2]
    refine jr_lif_le 30 ok rfl rfl d_St_mayCome_13 d_St_mayCome_14 (by decide) (fun c9 => ?_) (fun c9 => ?_)
    · replace hs := oq_pos c9 hs
      refine jr_iconst ok d_St_mayCome_30 ?_
      exact jm_zret (Lf := wtL D g A c) ok (by decide +kernel) fin hs d_St_mayCome_31
    · replace hs := oq_neg c9 hs
      refine jr_lload_n ok 2 d_St_mayCome_17 rfl rfl ?_
      refine jr_aload_n ok 0 d_St_mayCome_18 rfl rfl ?_
      refine jr_get (v := .long S8.st_horizon) ok 3 f_St_33 rfl rfl d_St_mayCome_19 ?_
      refine jr_lif_lt 30 ok rfl rfl d_St_mayCome_22 d_St_mayCome_23 (by decide) (fun c10 => ?_) (fun c10 => ?_)
      · replace hs := oq_pos c10 hs
        refine jr_iconst ok d_St_mayCome_30 ?_
        exact jm_zret (Lf := wtL D g A c) ok (by decide +kernel) fin hs d_St_mayCome_31
      · replace hs := oq_neg c10 hs
        refine jr_iconst ok d_St_mayCome_26 ?_
        refine jr_goto 31 ok d_St_mayCome_27 (by decide) ?_
        exact jm_zret (Lf := wtL D g A c) ok (by decide +kernel) fin hs d_St_mayCome_31

def q_Gd_isEmptyLine_2 (c : CW) : Nat → Nat → Int → Int → WS → Option (Int × WS)
  | 0, _, _, _, _ => none
  | n + 1, v0, v1, v2, S => if w32 (S.gd_windows v0) ≤ w32 v2 then some (1, S) else mb2 (s_Gd_placeOf c S v0 v1 v2) (fun r6 S6 => mb2 (s_Gd_has c S6 v0 r6) (fun r7 S7 => if w32 r7 = 0 then (q_Gd_isEmptyLine_2 c n) v0 v1 (v2 + 1) S7 else some (0, S7)))

def s_Gd_isEmptyLine (c : CW) (S : WS) (v0 : Nat) (v1 : Int) : Option (Int × WS) := q_Gd_isEmptyLine_2 c fU v0 v1 0 S
set_option maxHeartbeats 4000000 in
set_option maxRecDepth 100000 in
theorem r_Gd_isEmptyLine (l : Launch) (D : jd_T) (g : Nat → Nat) (A : AW) (c : CW) (S : WS) (v0 : Nat) (v1 : Int) (r : Int) (S9 : WS) (hv0 : v0 < 19) (hs : s_Gd_isEmptyLine c S v0 v1 = some (r, S9)) : jc_C l D y_Gd_isEmptyLine b_Gd_isEmptyLine 3 (some .boolean) { frames := 1, cells := 0, slots := 0, locals := 22 } [.ref (g (19 + v0)), .int (ii v1)] (wtL D g A c S) (fun _ : Unit => (.returned (some (.int (ii r))), True, wtL D g A c S9)) := by
  refine jc_of rfl (Nat.le_of_ble_eq_true rfl) ?_
  intro X hl hR hN ok hnm fin
  subst hl
  have B_2 : ∀ (n2 : Nat), ∀ (v0 : Nat) (v1 : Int) (v2 : Int) (S : WS), v0 < 19 → q_Gd_isEmptyLine_2 c n2 v0 v1 v2 S = some (r, S9) → jw X 0 0 (wtL D g A c S) [(0, .ref (g (19 + v0))), (1, .int (ii v1)), (2, .int (ii v2))] 2 [] := by
    intro n2
    induction n2 with
    | zero =>
      intro v0 v1 v2 S hv0 hs
      rw [q_Gd_isEmptyLine_2] at hs; cases hs
    | succ n2 ih2 =>
      intro v0 v1 v2 S hv0 hs
      rw [q_Gd_isEmptyLine_2] at hs
      refine jr_iload_n ok 2 d_Gd_isEmptyLine_2 rfl rfl ?_
      refine jr_aload_n ok 0 d_Gd_isEmptyLine_3 rfl rfl ?_
      refine jq_get (v := .int (ii (S.gd_windows v0))) ok f_Gd_23 (sg_atp (F := grdW D g A c S) 23 rfl hv0 0 rfl) rfl d_Gd_isEmptyLine_4 ?_
      refine jr_wicmp_ge 31 ok rfl rfl d_Gd_isEmptyLine_7 (by decide) (fun c5 => ?_) (fun c5 => ?_)
      · replace hs := oq_pos c5 hs
        refine jr_iconst ok d_Gd_isEmptyLine_31 ?_
        exact jm_zret (Lf := wtL D g A c) ok (by decide +kernel) fin hs d_Gd_isEmptyLine_32
      · replace hs := oq_neg c5 hs
        refine jr_aload_n ok 0 d_Gd_isEmptyLine_10 rfl rfl ?_
        refine jr_aload_n ok 0 d_Gd_isEmptyLine_11 rfl rfl ?_
        refine jr_iload_n ok 1 d_Gd_isEmptyLine_12 rfl rfl ?_
        refine jr_iload_n ok 2 d_Gd_isEmptyLine_13 rfl rfl ?_
        obtain ⟨r6, S6, hc6, hs⟩ := mb2_some hs
        refine jq_cV1 ok hR m_Gd_43 (r_Gd_placeOf (jx_l X) D g A c S v0 v1 v2 r6 S6 hv0 hc6) (sg_atp (F := grdW D g A c S) 23 rfl hv0 0 rfl) rfl rfl rfl (Nat.le_of_ble_eq_true rfl) ⟨Nat.le_of_ble_eq_true rfl, Nat.le_of_ble_eq_true rfl⟩ ⟨Nat.zero_le _, Nat.zero_le _⟩ d_Gd_isEmptyLine_14 ?_
        show jw X 0 0 (wtL D g A c S6) [(0, .ref (g (19 + v0))), (1, .int (ii v1)), (2, .int (ii v2))] 17 [.int (ii r6), .ref (g (19 + v0))]
        obtain ⟨r7, S7, hc7, hs⟩ := mb2_some hs
        refine jq_cV1 ok hR m_Gd_39 (r_Gd_has (jx_l X) D g A c S6 v0 r6 r7 S7 hv0 hc7) (sg_atp (F := grdW D g A c S6) 23 rfl hv0 0 rfl) rfl rfl rfl (Nat.le_of_ble_eq_true rfl) ⟨Nat.le_of_ble_eq_true rfl, Nat.le_of_ble_eq_true rfl⟩ ⟨Nat.zero_le _, Nat.zero_le _⟩ d_Gd_isEmptyLine_17 ?_
        show jw X 0 0 (wtL D g A c S7) [(0, .ref (g (19 + v0))), (1, .int (ii v1)), (2, .int (ii v2))] 20 [.int (ii r7)]
        refine jr_wif_eq 25 ok rfl d_Gd_isEmptyLine_20 (by decide) (fun c8 => ?_) (fun c8 => ?_)
        · replace hs := oq_pos c8 hs
          refine jr_iinc [(2, .int (ii (v2 + 1))), (0, .ref (g (19 + v0))), (1, .int (ii v1))] 2 ok d_Gd_isEmptyLine_25 rfl (by rw [hN]; decide) rfl ?_
          refine jr_goto 2 ok d_Gd_isEmptyLine_28 (by decide) ?_
          exact jr_lv [1, 2, 0] rfl (ih2 v0 v1 (v2 + 1) S7 hv0 hs)
        · replace hs := oq_neg c8 hs
          refine jr_iconst ok d_Gd_isEmptyLine_23 ?_
          exact jm_zret (Lf := wtL D g A c) ok (by decide +kernel) fin hs d_Gd_isEmptyLine_24
  show jw X 0 0 (wtL D g A c S) [(0, .ref (g (19 + v0))), (1, .int (ii v1))] 0 []
  rw [s_Gd_isEmptyLine] at hs
  refine jr_iconst ok d_Gd_isEmptyLine_0 ?_
  refine jr_istore_n [(2, .int (ii 0)), (0, .ref (g (19 + v0))), (1, .int (ii v1))] ok d_Gd_isEmptyLine_1 rfl (by rw [hN]; decide) rfl ?_
  exact jr_lv [1, 2, 0] rfl (B_2 fU v0 v1 0 S hv0 hs)

def q_LR_compose_32 (c : CW) (k7 : Int → WS → Option (Unit × WS)) : Nat → Int → Int → WS → Option (Unit × WS)
  | 0, _, _, _ => none
  | n + 1, v2, v3, S => if (0 : Int) ≤ v2 ∧ v2 < (6 : Int) then if w32 (S.lr_valueEnd v2) ≤ w32 v3 then k7 (v2 + 1) S else mb2 (s_Tp_byteAt c S v3) (fun r15 S15 => mb2 (s_LR_addLetter c S15 r15) (fun r16 S16 => (q_LR_compose_32 c k7 n) v2 (v3 + 1) S16)) else none

def q_LR_compose_25 (c : CW) (k7 : Int → WS → Option (Unit × WS)) (v2 : Int) (S : WS) : Option (Unit × WS) := if (0 : Int) ≤ v2 ∧ v2 < (6 : Int) then q_LR_compose_32 c k7 fU v2 (S.lr_nameAt v2) S else none

def q_LR_compose_7 (c : CW) : Nat → Int → WS → Option (Unit × WS)
  | 0, _, _ => none
  | n + 1, v2, S => if w32 S.lr_labels ≤ w32 v2 then some ((), S) else if w32 v2 ≤ 0 then q_LR_compose_25 c (q_LR_compose_7 c n) v2 S else mb2 (s_LR_addLetter c S 44) (fun r11 S11 => q_LR_compose_25 c (q_LR_compose_7 c n) v2 S11)

def s_LR_compose (c : CW) (S : WS)  : Option (Unit × WS) := q_LR_compose_7 c fU 0 (WS.w_lr_length S 0)
set_option maxHeartbeats 4000000 in
set_option maxRecDepth 100000 in
theorem r_LR_compose (l : Launch) (D : jd_T) (g : Nat → Nat) (A : AW) (c : CW) (S : WS)  (r : Unit) (S9 : WS)  (hs : s_LR_compose c S  = some (r, S9)) : jc_C l D y_LR_compose b_LR_compose 4 none { frames := 1, cells := 0, slots := 0, locals := 21 } [.ref (g 4), .ref (g 1)] (wtL D g A c S) (fun _ : Unit => (.returned (none), True, wtL D g A c S9)) := by
  refine jc_of rfl (Nat.le_of_ble_eq_true rfl) ?_
  intro X hl hR hN ok hnm fin
  subst hl
  have B_7 : ∀ (n7 : Nat), ∀ (v2 : Int) (S : WS), q_LR_compose_7 c n7 v2 S = some (r, S9) → jw X 0 0 (wtL D g A c S) [(0, .ref (g 4)), (1, .ref (g 1)), (2, .int (ii v2))] 7 [] := by
    intro n7
    induction n7 with
    | zero =>
      intro v2 S hs
      rw [q_LR_compose_7] at hs; cases hs
    | succ n7 ih7 =>
      have B_32 : ∀ (n32 : Nat), ∀ (v2 : Int) (v3 : Int) (S : WS), q_LR_compose_32 c (q_LR_compose_7 c n7) n32 v2 v3 S = some (r, S9) → jw X 0 0 (wtL D g A c S) [(0, .ref (g 4)), (1, .ref (g 1)), (2, .int (ii v2)), (3, .int (ii v3))] 32 [] := by
        intro n32
        induction n32 with
        | zero =>
          intro v2 v3 S hs
          rw [q_LR_compose_32] at hs; cases hs
        | succ n32 ih32 =>
          intro v2 v3 S hs
          rw [q_LR_compose_32] at hs
          refine jr_iload_n ok 3 d_LR_compose_32 rfl rfl ?_
          refine jr_aload_n ok 0 d_LR_compose_33 rfl rfl ?_
          refine jr_get (v := .ref (g 7)) ok 6 f_LR_18 rfl rfl d_LR_compose_34 ?_
          refine jr_iload_n ok 2 d_LR_compose_37 rfl rfl ?_
          obtain ⟨hb13, hs⟩ := oq_if hs
          refine jr_iald ok 9 rfl rfl hb13.1 hb13.2 d_LR_compose_38 ?_
          refine jr_wicmp_ge 57 ok rfl rfl d_LR_compose_39 (by decide) (fun c14 => ?_) (fun c14 => ?_)
          · replace hs := oq_pos c14 hs
            refine jr_iinc [(2, .int (ii (v2 + 1))), (0, .ref (g 4)), (1, .ref (g 1)), (3, .int (ii v3))] 2 ok d_LR_compose_57 rfl (by rw [hN]; decide) rfl ?_
            refine jr_goto 7 ok d_LR_compose_60 (by decide) ?_
            exact jr_lv [1, 2, 0] rfl (ih7 (v2 + 1) S hs)
          · replace hs := oq_neg c14 hs
            refine jr_aload_n ok 0 d_LR_compose_42 rfl rfl ?_
            refine jr_aload_n ok 1 d_LR_compose_43 rfl rfl ?_
            refine jr_iload_n ok 3 d_LR_compose_44 rfl rfl ?_
            obtain ⟨r15, S15, hc15, hs⟩ := mb2_some hs
            refine jq_cV1 ok hR m_LR_52 (r_Tp_byteAt (jx_l X) D g A c S v3 r15 S15  hc15) (sg_atk 1 rfl) rfl rfl rfl (Nat.le_of_ble_eq_true rfl) ⟨Nat.le_of_ble_eq_true rfl, Nat.le_of_ble_eq_true rfl⟩ ⟨Nat.zero_le _, Nat.zero_le _⟩ d_LR_compose_45 ?_
            show jw X 0 0 (wtL D g A c S15) [(0, .ref (g 4)), (1, .ref (g 1)), (2, .int (ii v2)), (3, .int (ii v3))] 48 [.int (ii r15), .ref (g 4)]
            obtain ⟨r16, S16, hc16, hs⟩ := mb2_some hs
            refine jq_cV0 ok hR m_LR_79 (r_LR_addLetter (jx_l X) D g A c S15 r15 r16 S16  hc16) (sg_atk 6 rfl) rfl rfl rfl (Nat.le_of_ble_eq_true rfl) ⟨Nat.le_of_ble_eq_true rfl, Nat.le_of_ble_eq_true rfl⟩ ⟨Nat.zero_le _, Nat.zero_le _⟩ d_LR_compose_48 ?_
            show jw X 0 0 (wtL D g A c S16) [(0, .ref (g 4)), (1, .ref (g 1)), (2, .int (ii v2)), (3, .int (ii v3))] 51 []
            refine jr_iinc [(3, .int (ii (v3 + 1))), (0, .ref (g 4)), (1, .ref (g 1)), (2, .int (ii v2))] 3 ok d_LR_compose_51 rfl (by rw [hN]; decide) rfl ?_
            refine jr_goto 32 ok d_LR_compose_54 (by decide) ?_
            exact jr_lv [1, 2, 3, 0] rfl (ih32 v2 (v3 + 1) S16 hs)
      have B_25 : ∀ (v2 : Int) (S : WS), q_LR_compose_25 c (q_LR_compose_7 c n7) v2 S = some (r, S9) → jw X 0 0 (wtL D g A c S) [(0, .ref (g 4)), (1, .ref (g 1)), (2, .int (ii v2))] 25 [] := by
        intro v2 S hs
        rw [q_LR_compose_25] at hs
        refine jr_aload_n ok 0 d_LR_compose_25 rfl rfl ?_
        refine jr_get (v := .ref (g 5)) ok 6 f_LR_9 rfl rfl d_LR_compose_26 ?_
        refine jr_iload_n ok 2 d_LR_compose_29 rfl rfl ?_
        obtain ⟨hb12, hs⟩ := oq_if hs
        refine jr_iald ok 7 rfl rfl hb12.1 hb12.2 d_LR_compose_30 ?_
        refine jr_istore_n [(3, .int (ii (S.lr_nameAt v2))), (0, .ref (g 4)), (1, .ref (g 1)), (2, .int (ii v2))] ok d_LR_compose_31 rfl (by rw [hN]; decide) rfl ?_
        exact jr_lv [1, 2, 3, 0] rfl (B_32 fU v2 (S.lr_nameAt v2) S hs)
      intro v2 S hs
      rw [q_LR_compose_7] at hs
      refine jr_iload_n ok 2 d_LR_compose_7 rfl rfl ?_
      refine jr_aload_n ok 0 d_LR_compose_8 rfl rfl ?_
      refine jr_get (v := .int (ii S.lr_labels)) ok 6 f_LR_35 rfl rfl d_LR_compose_9 ?_
      refine jr_wicmp_ge 63 ok rfl rfl d_LR_compose_12 (by decide) (fun c9 => ?_) (fun c9 => ?_)
      · replace hs := oq_pos c9 hs
        exact jm_vret (Lf := wtL D g A c) ok fin hs d_LR_compose_63
      · replace hs := oq_neg c9 hs
        refine jr_iload_n ok 2 d_LR_compose_15 rfl rfl ?_
        refine jr_wif_le 25 ok rfl d_LR_compose_16 (by decide) (fun c10 => ?_) (fun c10 => ?_)
        · replace hs := oq_pos c10 hs
          exact jr_lv [0, 1, 2] rfl (B_25 v2 S hs)
        · replace hs := oq_neg c10 hs
          refine jr_aload_n ok 0 d_LR_compose_19 rfl rfl ?_
          refine jr_bipush ok d_LR_compose_20 (by decide +kernel) ?_
          obtain ⟨r11, S11, hc11, hs⟩ := mb2_some hs
          refine jq_cV0 ok hR m_LR_79 (r_LR_addLetter (jx_l X) D g A c S 44 r11 S11  hc11) (sg_atk 6 rfl) rfl rfl rfl (Nat.le_of_ble_eq_true rfl) ⟨Nat.le_of_ble_eq_true rfl, Nat.le_of_ble_eq_true rfl⟩ ⟨Nat.zero_le _, Nat.zero_le _⟩ d_LR_compose_22 ?_
          show jw X 0 0 (wtL D g A c S11) [(0, .ref (g 4)), (1, .ref (g 1)), (2, .int (ii v2))] 25 []
          exact jr_lv [0, 1, 2] rfl (B_25 v2 S11 hs)
  show jw X 0 0 (wtL D g A c S) [(0, .ref (g 4)), (1, .ref (g 1))] 0 []
  rw [s_LR_compose] at hs
  refine jr_aload_n ok 0 d_LR_compose_0 rfl rfl ?_
  refine jr_iconst ok d_LR_compose_1 ?_
  refine jr_put (wtL D g A c (WS.w_lr_length S 0)) ok 6 f_LR_32 rfl rfl rfl (Nat.le_of_ble_eq_true rfl) rfl d_LR_compose_2 ?_
  refine jr_iconst ok d_LR_compose_5 ?_
  refine jr_istore_n [(2, .int (ii 0)), (0, .ref (g 4)), (1, .ref (g 1))] ok d_LR_compose_6 rfl (by rw [hN]; decide) rfl ?_
  exact jr_lv [1, 2, 0] rfl (B_7 fU 0 (WS.w_lr_length S 0) hs)

def s_Pg_numberOf (c : CW) (S : WS) (v1 : Int) : Option (Int64 × WS) := mb2 (s_Pg_get c S (v1 + 1)) (fun r3 S3 => mb2 (s_Pg_get c S3 (v1 + 2)) (fun r4 S4 => some (((ll (w32 r3)) <<< ((ii 32).toInt64 &&& 63)) ||| ((ll (w32 r4)) &&& (ll 4294967295)), S4)))
set_option maxHeartbeats 4000000 in
set_option maxRecDepth 100000 in
theorem r_Pg_numberOf (l : Launch) (D : jd_T) (g : Nat → Nat) (A : AW) (c : CW) (S : WS) (v1 : Int) (r : Int64) (S9 : WS)  (hs : s_Pg_numberOf c S v1 = some (r, S9)) : jc_C l D y_Pg_numberOf b_Pg_numberOf 2 (some .long) { frames := 1, cells := 0, slots := 0, locals := 21 } [.ref (g 9), .int (ii v1)] (wtL D g A c S) (fun _ : Unit => (.returned (some (.long r)), True, wtL D g A c S9)) := by
  refine jc_of rfl (Nat.le_of_ble_eq_true rfl) ?_
  intro X hl hR hN ok hnm fin
  subst hl
  show jw X 0 0 (wtL D g A c S) [(0, .ref (g 9)), (1, .int (ii v1))] 0 []
  rw [s_Pg_numberOf] at hs
  refine jr_aload_n ok 0 d_Pg_numberOf_0 rfl rfl ?_
  refine jr_iload_n ok 1 d_Pg_numberOf_1 rfl rfl ?_
  refine jr_iconst ok d_Pg_numberOf_2 ?_
  refine jr_iadd ok d_Pg_numberOf_3 ?_
  obtain ⟨r3, S3, hc3, hs⟩ := mb2_some hs
  refine jq_cV1 ok hR m_Pg_29 (r_Pg_get (jx_l X) D g A c S (v1 + 1) r3 S3  hc3) (sg_atk 11 rfl) rfl rfl rfl (Nat.le_of_ble_eq_true rfl) ⟨Nat.le_of_ble_eq_true rfl, Nat.le_of_ble_eq_true rfl⟩ ⟨Nat.zero_le _, Nat.zero_le _⟩ d_Pg_numberOf_4 ?_
  show jw X 0 0 (wtL D g A c S3) [(0, .ref (g 9)), (1, .int (ii v1))] 7 [.int (ii r3)]
  refine jr_wi2l ok rfl d_Pg_numberOf_7 ?_
  refine jr_bipush ok d_Pg_numberOf_8 (by decide +kernel) ?_
  refine jr_lshlx ok d_Pg_numberOf_10 ?_
  refine jr_aload_n ok 0 d_Pg_numberOf_11 rfl rfl ?_
  refine jr_iload_n ok 1 d_Pg_numberOf_12 rfl rfl ?_
  refine jr_iconst ok d_Pg_numberOf_13 ?_
  refine jr_iadd ok d_Pg_numberOf_14 ?_
  obtain ⟨r4, S4, hc4, hs⟩ := mb2_some hs
  refine jq_cV1 ok hR m_Pg_29 (r_Pg_get (jx_l X) D g A c S3 (v1 + 2) r4 S4  hc4) (sg_atk 11 rfl) rfl rfl rfl (Nat.le_of_ble_eq_true rfl) ⟨Nat.le_of_ble_eq_true rfl, Nat.le_of_ble_eq_true rfl⟩ ⟨Nat.zero_le _, Nat.zero_le _⟩ d_Pg_numberOf_15 ?_
  show jw X 0 0 (wtL D g A c S4) [(0, .ref (g 9)), (1, .int (ii v1))] 18 [.int (ii r4), .long ((ll (w32 r3)) <<< ((ii 32).toInt64 &&& 63))]
  refine jr_wi2l ok rfl d_Pg_numberOf_18 ?_
  refine jr_ldc2 (z := 4294967295) ok w_1101 (by decide +kernel) d_Pg_numberOf_19 ?_
  refine jr_landx ok d_Pg_numberOf_22 ?_
  refine jr_lorx ok d_Pg_numberOf_23 ?_
  exact jm_lret (Lf := wtL D g A c) ok fin hs d_Pg_numberOf_24

def s_Pg_kindOf (c : CW) (S : WS) (v1 : Int) : Option (Int × WS) := mb2 (s_Pg_get c S (v1 + 1)) (fun r2 S2 => some (r2, S2))
set_option maxHeartbeats 4000000 in
set_option maxRecDepth 100000 in
theorem r_Pg_kindOf (l : Launch) (D : jd_T) (g : Nat → Nat) (A : AW) (c : CW) (S : WS) (v1 : Int) (r : Int) (S9 : WS)  (hs : s_Pg_kindOf c S v1 = some (r, S9)) : jc_C l D y_Pg_kindOf b_Pg_kindOf 2 (some .int) { frames := 1, cells := 0, slots := 0, locals := 21 } [.ref (g 9), .int (ii v1)] (wtL D g A c S) (fun _ : Unit => (.returned (some (.int (ii r))), True, wtL D g A c S9)) := by
  refine jc_of rfl (Nat.le_of_ble_eq_true rfl) ?_
  intro X hl hR hN ok hnm fin
  subst hl
  show jw X 0 0 (wtL D g A c S) [(0, .ref (g 9)), (1, .int (ii v1))] 0 []
  rw [s_Pg_kindOf] at hs
  refine jr_aload_n ok 0 d_Pg_kindOf_0 rfl rfl ?_
  refine jr_iload_n ok 1 d_Pg_kindOf_1 rfl rfl ?_
  refine jr_iconst ok d_Pg_kindOf_2 ?_
  refine jr_iadd ok d_Pg_kindOf_3 ?_
  obtain ⟨r2, S2, hc2, hs⟩ := mb2_some hs
  refine jq_cV1 ok hR m_Pg_29 (r_Pg_get (jx_l X) D g A c S (v1 + 1) r2 S2  hc2) (sg_atk 11 rfl) rfl rfl rfl (Nat.le_of_ble_eq_true rfl) ⟨Nat.le_of_ble_eq_true rfl, Nat.le_of_ble_eq_true rfl⟩ ⟨Nat.zero_le _, Nat.zero_le _⟩ d_Pg_kindOf_4 ?_
  show jw X 0 0 (wtL D g A c S2) [(0, .ref (g 9)), (1, .int (ii v1))] 7 [.int (ii r2)]
  exact jm_iret (Lf := wtL D g A c) ok fin hs d_Pg_kindOf_7

def q_St_packHead_51 (c : CW) (k26 : Int → Int → WS → Option (Int × WS)) (v1 : Int) (v2 : Int) (S : WS) : Option (Int × WS) := k26 v1 (v2 + 1) S

def q_St_packHead_26 (c : CW) : Nat → Int → Int → WS → Option (Int × WS)
  | 0, _, _, _ => none
  | n + 1, v1, v2, S => if w32 (c.N : Int) ≤ w32 v2 then some (v1, S) else if ((0 : Int) ≤ v2 ∧ v2 < (c.N : Int)) ∧ c.N ≤ 256 then mb2 (s_Se_points c S v2.toNat) (fun r11 S11 => if r11 < c.N then mb2 (s_Pt_packAll c S11 r11) (fun r13 S13 => q_St_packHead_51 c (q_St_packHead_26 c n) v1 v2 S13) else none) else none

def q_St_packHead_19 (c : CW) (v1 : Int) (S : WS) : Option (Int × WS) := q_St_packHead_26 c fU v1 0 (WS.w_st_headSize S 0)

def s_St_packHead (c : CW) (S : WS)  : Option (Int × WS) := if w32 S.st_headSize ≤ 0 then q_St_packHead_19 c S.st_headSize S else q_St_packHead_19 c S.st_headSize (WS.w_st_parcels S (S.st_parcels + 1))
set_option maxHeartbeats 4000000 in
set_option maxRecDepth 100000 in
theorem r_St_packHead (l : Launch) (D : jd_T) (g : Nat → Nat) (A : AW) (c : CW) (S : WS)  (r : Int) (S9 : WS)  (hs : s_St_packHead c S  = some (r, S9)) : jc_C l D y_St_packHead b_St_packHead 4 (some .int) { frames := 1, cells := 0, slots := 0, locals := 21 } [.ref (g 2)] (wtL D g A c S) (fun _ : Unit => (.returned (some (.int (ii r))), True, wtL D g A c S9)) := by
  refine jc_of rfl (Nat.le_of_ble_eq_true rfl) ?_
  intro X hl hR hN ok hnm fin
  subst hl
  have B_26 : ∀ (n26 : Nat), ∀ (v1 : Int) (v2 : Int) (S : WS), q_St_packHead_26 c n26 v1 v2 S = some (r, S9) → jw X 0 0 (wtL D g A c S) [(0, .ref (g 2)), (1, .int (ii v1)), (2, .int (ii v2))] 26 [] := by
    intro n26
    induction n26 with
    | zero =>
      intro v1 v2 S hs
      rw [q_St_packHead_26] at hs; cases hs
    | succ n26 ih26 =>
      have B_51 : ∀ (v1 : Int) (v2 : Int) (S : WS), q_St_packHead_51 c (q_St_packHead_26 c n26) v1 v2 S = some (r, S9) → jw X 0 0 (wtL D g A c S) [(0, .ref (g 2)), (1, .int (ii v1)), (2, .int (ii v2))] 51 [] := by
        intro v1 v2 S hs
        rw [q_St_packHead_51] at hs
        refine jr_iinc [(2, .int (ii (v2 + 1))), (0, .ref (g 2)), (1, .int (ii v1))] 2 ok d_St_packHead_51 rfl (by rw [hN]; decide) rfl ?_
        refine jr_goto 26 ok d_St_packHead_54 (by decide) ?_
        exact jr_lv [1, 2, 0] rfl (ih26 v1 (v2 + 1) S hs)
      intro v1 v2 S hs
      rw [q_St_packHead_26] at hs
      refine jr_iload_n ok 2 d_St_packHead_26 rfl rfl ?_
      refine jr_aload_n ok 0 d_St_packHead_27 rfl rfl ?_
      refine jr_get (v := .int (ii (c.N : Int))) ok 3 f_St_17 rfl rfl d_St_packHead_28 ?_
      refine jr_wicmp_ge 57 ok rfl rfl d_St_packHead_31 (by decide) (fun c8 => ?_) (fun c8 => ?_)
      · replace hs := oq_pos c8 hs
        refine jr_iload_n ok 1 d_St_packHead_57 rfl rfl ?_
        exact jm_iret (Lf := wtL D g A c) ok fin hs d_St_packHead_58
      · replace hs := oq_neg c8 hs
        refine jr_aload_n ok 0 d_St_packHead_34 rfl rfl ?_
        refine jr_iload_n ok 2 d_St_packHead_35 rfl rfl ?_
        obtain ⟨hb10, hs⟩ := oq_if hs
        refine jq_cV1 ok hR m_St_21 (r_St_find (jx_l X) D g A c S v2 hb10) (sg_atk 3 rfl) rfl rfl rfl (Nat.le_of_ble_eq_true rfl) ⟨Nat.le_of_ble_eq_true rfl, Nat.le_of_ble_eq_true rfl⟩ ⟨Nat.zero_le _, Nat.zero_le _⟩ d_St_packHead_36 ?_
        show jw X 0 0 (wtL D g A c S) [(0, .ref (g 2)), (1, .int (ii v1)), (2, .int (ii v2))] 39 [.ref (A.us v2.toNat 0)]
        refine jr_astore_n [(3, .ref (A.us v2.toNat 0)), (0, .ref (g 2)), (1, .int (ii v1)), (2, .int (ii v2))] ok d_St_packHead_39 rfl (by rw [hN]; decide) rfl ?_
        refine jr_aload_n ok 0 d_St_packHead_40 rfl rfl ?_
        refine jr_ifnull_r ok d_St_packHead_41 ?_
        refine jr_aload_n ok 0 d_St_packHead_44 rfl rfl ?_
        obtain ⟨r11, S11, hc11, hs⟩ := mb2_some hs
        refine jq_cV1 ok hR m_St_46 (r_Se_points (jx_l X) D g A c S v2.toNat r11 S11 (idx_lt hb10.1.1 hb10.1.2) hc11) (sg_atp (F := serW D A c S) 5 rfl (idx_lt hb10.1.1 hb10.1.2) 0 rfl) rfl rfl rfl (Nat.le_of_ble_eq_true rfl) ⟨Nat.le_of_ble_eq_true rfl, Nat.le_of_ble_eq_true rfl⟩ ⟨Nat.zero_le _, Nat.zero_le _⟩ d_St_packHead_45 ?_
        obtain ⟨hb12, hs⟩ := oq_if hs
        show jw X 0 0 (wtL D g A c S11) [(3, .ref (A.us v2.toNat 0)), (0, .ref (g 2)), (1, .int (ii v1)), (2, .int (ii v2))] 48 [.ref (A.us r11 5)]
        obtain ⟨r13, S13, hc13, hs⟩ := mb2_some hs
        refine jq_cV0 ok hR m_St_85 (r_Pt_packAll (jx_l X) D g A c S11 r11 r13 S13 hb12 hc13) (sg_atp (F := serW D A c S11) 5 rfl hb12 5 rfl) rfl rfl rfl (Nat.le_of_ble_eq_true rfl) ⟨Nat.le_of_ble_eq_true rfl, Nat.le_of_ble_eq_true rfl⟩ ⟨Nat.zero_le _, Nat.zero_le _⟩ d_St_packHead_48 ?_
        show jw X 0 0 (wtL D g A c S13) [(3, .ref (A.us v2.toNat 0)), (0, .ref (g 2)), (1, .int (ii v1)), (2, .int (ii v2))] 51 []
        exact jr_lv [1, 2, 3] rfl (B_51 v1 v2 S13 hs)
  have B_19 : ∀ (v1 : Int) (S : WS), q_St_packHead_19 c v1 S = some (r, S9) → jw X 0 0 (wtL D g A c S) [(0, .ref (g 2)), (1, .int (ii v1))] 19 [] := by
    intro v1 S hs
    rw [q_St_packHead_19] at hs
    refine jr_aload_n ok 0 d_St_packHead_19 rfl rfl ?_
    refine jr_iconst ok d_St_packHead_20 ?_
    refine jr_put (wtL D g A c (WS.w_st_headSize S 0)) ok 3 f_St_37 rfl rfl rfl (Nat.le_of_ble_eq_true rfl) rfl d_St_packHead_21 ?_
    refine jr_iconst ok d_St_packHead_24 ?_
    refine jr_istore_n [(2, .int (ii 0)), (0, .ref (g 2)), (1, .int (ii v1))] ok d_St_packHead_25 rfl (by rw [hN]; decide) rfl ?_
    exact jr_lv [1, 2, 0] rfl (B_26 fU v1 0 (WS.w_st_headSize S 0) hs)
  show jw X 0 0 (wtL D g A c S) [(0, .ref (g 2))] 0 []
  rw [s_St_packHead] at hs
  refine jr_aload_n ok 0 d_St_packHead_0 rfl rfl ?_
  refine jr_get (v := .int (ii S.st_headSize)) ok 3 f_St_37 rfl rfl d_St_packHead_1 ?_
  refine jr_istore_n [(1, .int (ii S.st_headSize)), (0, .ref (g 2))] ok d_St_packHead_4 rfl (by rw [hN]; decide) rfl ?_
  refine jr_iload_n ok 0 d_St_packHead_5 rfl rfl ?_
  refine jr_wif_le 19 ok rfl d_St_packHead_6 (by decide) (fun c14 => ?_) (fun c14 => ?_)
  · replace hs := oq_pos c14 hs
    exact jr_lv [1, 0] rfl (B_19 S.st_headSize S hs)
  · replace hs := oq_neg c14 hs
    refine jr_aload_n ok 1 d_St_packHead_9 rfl rfl ?_
    refine jr_dup rfl ok d_St_packHead_10 ?_
    refine jr_get (v := .int (ii S.st_parcels)) ok 3 f_St_40 rfl rfl d_St_packHead_11 ?_
    refine jr_iconst ok d_St_packHead_14 ?_
    refine jr_iadd ok d_St_packHead_15 ?_
    refine jr_put (wtL D g A c (WS.w_st_parcels S (S.st_parcels + 1))) ok 3 f_St_40 rfl rfl rfl (Nat.le_of_ble_eq_true rfl) rfl d_St_packHead_16 ?_
    exact jr_lv [1, 0] rfl (B_19 S.st_headSize (WS.w_st_parcels S (S.st_parcels + 1)) hs)

def s_Pg_matchesOf (c : CW) (S : WS) (v1 : Int) : Option (Int × WS) := mb2 (s_Pg_get c S (v1 + 3)) (fun r2 S2 => some (r2, S2))
set_option maxHeartbeats 4000000 in
set_option maxRecDepth 100000 in
theorem r_Pg_matchesOf (l : Launch) (D : jd_T) (g : Nat → Nat) (A : AW) (c : CW) (S : WS) (v1 : Int) (r : Int) (S9 : WS)  (hs : s_Pg_matchesOf c S v1 = some (r, S9)) : jc_C l D y_Pg_matchesOf b_Pg_matchesOf 2 (some .int) { frames := 1, cells := 0, slots := 0, locals := 21 } [.ref (g 9), .int (ii v1)] (wtL D g A c S) (fun _ : Unit => (.returned (some (.int (ii r))), True, wtL D g A c S9)) := by
  refine jc_of rfl (Nat.le_of_ble_eq_true rfl) ?_
  intro X hl hR hN ok hnm fin
  subst hl
  show jw X 0 0 (wtL D g A c S) [(0, .ref (g 9)), (1, .int (ii v1))] 0 []
  rw [s_Pg_matchesOf] at hs
  refine jr_aload_n ok 0 d_Pg_matchesOf_0 rfl rfl ?_
  refine jr_iload_n ok 1 d_Pg_matchesOf_1 rfl rfl ?_
  refine jr_iconst ok d_Pg_matchesOf_2 ?_
  refine jr_iadd ok d_Pg_matchesOf_3 ?_
  obtain ⟨r2, S2, hc2, hs⟩ := mb2_some hs
  refine jq_cV1 ok hR m_Pg_29 (r_Pg_get (jx_l X) D g A c S (v1 + 3) r2 S2  hc2) (sg_atk 11 rfl) rfl rfl rfl (Nat.le_of_ble_eq_true rfl) ⟨Nat.le_of_ble_eq_true rfl, Nat.le_of_ble_eq_true rfl⟩ ⟨Nat.zero_le _, Nat.zero_le _⟩ d_Pg_matchesOf_4 ?_
  show jw X 0 0 (wtL D g A c S2) [(0, .ref (g 9)), (1, .int (ii v1))] 7 [.int (ii r2)]
  exact jm_iret (Lf := wtL D g A c) ok fin hs d_Pg_matchesOf_7

def q_Pt_firstFrom_55 (c : CW) (k11 : Nat → Int64 → Int → Int → Int → WS → Option (Int × WS)) (v0 : Nat) (v1 : Int64) (v3 : Int) (v4 : Int) (v5 : Int) (S : WS) : Option (Int × WS) := k11 v0 v1 v3 v4 (v5 + 1) S

def q_Pt_firstFrom_11 (c : CW) : Nat → Nat → Int64 → Int → Int → Int → WS → Option (Int × WS)
  | 0, _, _, _, _, _, _ => none
  | n + 1, v0, v1, v3, v4, v5, S => if 32 ≤ w32 v5 then some (v3, S) else if w32 v4 ≤ w32 v3 then some (v3, S) else mb2 (s_Pt_timeAt c S v0 (gDiv (v3 + v4) 2)) (fun r7 S7 => if v1.toInt ≤ r7.toInt then q_Pt_firstFrom_55 c (q_Pt_firstFrom_11 c n) v0 v1 v3 (gDiv (v3 + v4) 2) v5 S7 else q_Pt_firstFrom_55 c (q_Pt_firstFrom_11 c n) v0 v1 ((gDiv (v3 + v4) 2) + 1) v4 v5 S7)

def s_Pt_firstFrom (c : CW) (S : WS) (v0 : Nat) (v1 : Int64) : Option (Int × WS) := q_Pt_firstFrom_11 c fU v0 v1 0 (S.pt_size v0) 0 S
set_option maxHeartbeats 4000000 in
set_option maxRecDepth 100000 in
theorem r_Pt_firstFrom (l : Launch) (D : jd_T) (g : Nat → Nat) (A : AW) (c : CW) (S : WS) (v0 : Nat) (v1 : Int64) (r : Int) (S9 : WS) (hv0 : v0 < c.N) (hs : s_Pt_firstFrom c S v0 v1 = some (r, S9)) : jc_C l D y_Pt_firstFrom b_Pt_firstFrom 7 (some .int) { frames := 1, cells := 0, slots := 0, locals := 21 } [.ref (A.us v0 5), .long v1] (wtL D g A c S) (fun _ : Unit => (.returned (some (.int (ii r))), True, wtL D g A c S9)) := by
  refine jc_of rfl (Nat.le_of_ble_eq_true rfl) ?_
  intro X hl hR hN ok hnm fin
  subst hl
  have B_11 : ∀ (n11 : Nat), ∀ (v0 : Nat) (v1 : Int64) (v3 : Int) (v4 : Int) (v5 : Int) (S : WS), v0 < c.N → q_Pt_firstFrom_11 c n11 v0 v1 v3 v4 v5 S = some (r, S9) → jw X 0 0 (wtL D g A c S) [(0, .ref (A.us v0 5)), (1, .long v1), (3, .int (ii v3)), (4, .int (ii v4)), (5, .int (ii v5))] 11 [] := by
    intro n11
    induction n11 with
    | zero =>
      intro v0 v1 v3 v4 v5 S hv0 hs
      rw [q_Pt_firstFrom_11] at hs; cases hs
    | succ n11 ih11 =>
      have B_55 : ∀ (v0 : Nat) (v1 : Int64) (v3 : Int) (v4 : Int) (v5 : Int) (S : WS), v0 < c.N → q_Pt_firstFrom_55 c (q_Pt_firstFrom_11 c n11) v0 v1 v3 v4 v5 S = some (r, S9) → jw X 0 0 (wtL D g A c S) [(0, .ref (A.us v0 5)), (1, .long v1), (3, .int (ii v3)), (4, .int (ii v4)), (5, .int (ii v5))] 55 [] := by
        intro v0 v1 v3 v4 v5 S hv0 hs
        rw [q_Pt_firstFrom_55] at hs
        refine jr_iinc [(5, .int (ii (v5 + 1))), (0, .ref (A.us v0 5)), (1, .long v1), (3, .int (ii v3)), (4, .int (ii v4))] 4 ok d_Pt_firstFrom_55 rfl (by rw [hN]; decide) rfl ?_
        refine jr_goto 11 ok d_Pt_firstFrom_58 (by decide) ?_
        exact jr_lv [1, 2, 3, 4, 0] rfl (ih11 v0 v1 v3 v4 (v5 + 1) S hv0 hs)
      intro v0 v1 v3 v4 v5 S hv0 hs
      rw [q_Pt_firstFrom_11] at hs
      refine jr_iload ok 4 d_Pt_firstFrom_11 rfl ?_
      refine jr_bipush ok d_Pt_firstFrom_13 (by decide +kernel) ?_
      refine jr_wicmp_ge 61 ok rfl (show w32 32 = 32 by decide) d_Pt_firstFrom_15 (by decide) (fun c5 => ?_) (fun c5 => ?_)
      · replace hs := oq_pos c5 hs
        refine jr_iload_n ok 2 d_Pt_firstFrom_61 rfl rfl ?_
        exact jm_iret (Lf := wtL D g A c) ok fin hs d_Pt_firstFrom_62
      · replace hs := oq_neg c5 hs
        refine jr_iload_n ok 2 d_Pt_firstFrom_18 rfl rfl ?_
        refine jr_iload ok 3 d_Pt_firstFrom_19 rfl ?_
        refine jr_wicmp_ge 61 ok rfl rfl d_Pt_firstFrom_21 (by decide) (fun c6 => ?_) (fun c6 => ?_)
        · replace hs := oq_pos c6 hs
          refine jr_iload_n ok 2 d_Pt_firstFrom_61 rfl rfl ?_
          exact jm_iret (Lf := wtL D g A c) ok fin hs d_Pt_firstFrom_62
        · replace hs := oq_neg c6 hs
          refine jr_iload_n ok 2 d_Pt_firstFrom_24 rfl rfl ?_
          refine jr_iload ok 3 d_Pt_firstFrom_25 rfl ?_
          refine jr_iadd ok d_Pt_firstFrom_27 ?_
          refine jr_iconst ok d_Pt_firstFrom_28 ?_
          refine jr_idiv (z := gDiv (v3 + v4) 2) ok d_Pt_firstFrom_29 (by decide +kernel) (ii_of _).symm ?_
          refine jr_istore [(6, .int (ii (gDiv (v3 + v4) 2))), (0, .ref (A.us v0 5)), (1, .long v1), (3, .int (ii v3)), (4, .int (ii v4)), (5, .int (ii v5))] ok d_Pt_firstFrom_30 (by rw [hN]; decide) rfl ?_
          refine jr_aload_n ok 1 d_Pt_firstFrom_32 rfl rfl ?_
          refine jr_iload ok 0 d_Pt_firstFrom_33 rfl ?_
          obtain ⟨r7, S7, hc7, hs⟩ := mb2_some hs
          refine jq_cV1 ok hR m_Pt_40 (r_Pt_timeAt (jx_l X) D g A c S v0 (gDiv (v3 + v4) 2) r7 S7 hv0 hc7) (sg_atp (F := serW D A c S) 5 rfl hv0 5 rfl) rfl rfl rfl (Nat.le_of_ble_eq_true rfl) ⟨Nat.le_of_ble_eq_true rfl, Nat.le_of_ble_eq_true rfl⟩ ⟨Nat.zero_le _, Nat.zero_le _⟩ d_Pt_firstFrom_35 ?_
          show jw X 0 0 (wtL D g A c S7) [(6, .int (ii (gDiv (v3 + v4) 2))), (0, .ref (A.us v0 5)), (1, .long v1), (3, .int (ii v3)), (4, .int (ii v4)), (5, .int (ii v5))] 38 [.long r7]
          refine jr_lload_n ok 2 d_Pt_firstFrom_38 rfl rfl ?_
          refine jr_lif_ge 51 ok rfl rfl d_Pt_firstFrom_39 d_Pt_firstFrom_40 (by decide) (fun c8 => ?_) (fun c8 => ?_)
          · replace hs := oq_pos c8 hs
            refine jr_iload ok 0 d_Pt_firstFrom_51 rfl ?_
            refine jr_istore [(4, .int (ii (gDiv (v3 + v4) 2))), (6, .int (ii (gDiv (v3 + v4) 2))), (0, .ref (A.us v0 5)), (1, .long v1), (3, .int (ii v3)), (5, .int (ii v5))] ok d_Pt_firstFrom_53 (by rw [hN]; decide) rfl ?_
            exact jr_lv [2, 3, 4, 0, 5] rfl (B_55 v0 v1 v3 (gDiv (v3 + v4) 2) v5 S7 hv0 hs)
          · replace hs := oq_neg c8 hs
            refine jr_iload ok 0 d_Pt_firstFrom_43 rfl ?_
            refine jr_iconst ok d_Pt_firstFrom_45 ?_
            refine jr_iadd ok d_Pt_firstFrom_46 ?_
            refine jr_istore_n [(3, .int (ii ((gDiv (v3 + v4) 2) + 1))), (6, .int (ii (gDiv (v3 + v4) 2))), (0, .ref (A.us v0 5)), (1, .long v1), (4, .int (ii v4)), (5, .int (ii v5))] ok d_Pt_firstFrom_47 rfl (by rw [hN]; decide) rfl ?_
            refine jr_goto 55 ok d_Pt_firstFrom_48 (by decide) ?_
            exact jr_lv [2, 3, 0, 4, 5] rfl (B_55 v0 v1 ((gDiv (v3 + v4) 2) + 1) v4 v5 S7 hv0 hs)
  show jw X 0 0 (wtL D g A c S) [(0, .ref (A.us v0 5)), (1, .long v1)] 0 []
  rw [s_Pt_firstFrom] at hs
  refine jr_iconst ok d_Pt_firstFrom_0 ?_
  refine jr_istore_n [(3, .int (ii 0)), (0, .ref (A.us v0 5)), (1, .long v1)] ok d_Pt_firstFrom_1 rfl (by rw [hN]; decide) rfl ?_
  refine jr_aload_n ok 1 d_Pt_firstFrom_2 rfl rfl ?_
  refine jq_get (v := .int (ii (S.pt_size v0))) ok f_Pt_24 (sg_atp (F := serW D A c S) 5 rfl hv0 5 rfl) rfl d_Pt_firstFrom_3 ?_
  refine jr_istore [(4, .int (ii (S.pt_size v0))), (3, .int (ii 0)), (0, .ref (A.us v0 5)), (1, .long v1)] ok d_Pt_firstFrom_6 (by rw [hN]; decide) rfl ?_
  refine jr_iconst ok d_Pt_firstFrom_8 ?_
  refine jr_istore [(5, .int (ii 0)), (4, .int (ii (S.pt_size v0))), (3, .int (ii 0)), (0, .ref (A.us v0 5)), (1, .long v1)] ok d_Pt_firstFrom_9 (by rw [hN]; decide) rfl ?_
  exact jr_lv [3, 4, 2, 1, 0] rfl (B_11 fU v0 v1 0 (S.pt_size v0) 0 S hv0 hs)

def s_Pg_nameAt (c : CW) (S : WS) (v1 : Int) (v2 : Int) : Option (Int × WS) := mb2 (s_Pg_get c S ((v1 + 4) + (2 * v2))) (fun r2 S2 => some (r2, S2))
set_option maxHeartbeats 4000000 in
set_option maxRecDepth 100000 in
theorem r_Pg_nameAt (l : Launch) (D : jd_T) (g : Nat → Nat) (A : AW) (c : CW) (S : WS) (v1 : Int) (v2 : Int) (r : Int) (S9 : WS)  (hs : s_Pg_nameAt c S v1 v2 = some (r, S9)) : jc_C l D y_Pg_nameAt b_Pg_nameAt 3 (some .int) { frames := 1, cells := 0, slots := 0, locals := 21 } [.ref (g 9), .int (ii v1), .int (ii v2)] (wtL D g A c S) (fun _ : Unit => (.returned (some (.int (ii r))), True, wtL D g A c S9)) := by
  refine jc_of rfl (Nat.le_of_ble_eq_true rfl) ?_
  intro X hl hR hN ok hnm fin
  subst hl
  show jw X 0 0 (wtL D g A c S) [(0, .ref (g 9)), (1, .int (ii v1)), (2, .int (ii v2))] 0 []
  rw [s_Pg_nameAt] at hs
  refine jr_aload_n ok 0 d_Pg_nameAt_0 rfl rfl ?_
  refine jr_iload_n ok 1 d_Pg_nameAt_1 rfl rfl ?_
  refine jr_iconst ok d_Pg_nameAt_2 ?_
  refine jr_iadd ok d_Pg_nameAt_3 ?_
  refine jr_iconst ok d_Pg_nameAt_4 ?_
  refine jr_iload_n ok 2 d_Pg_nameAt_5 rfl rfl ?_
  refine jr_imul ok d_Pg_nameAt_6 ?_
  refine jr_iadd ok d_Pg_nameAt_7 ?_
  obtain ⟨r2, S2, hc2, hs⟩ := mb2_some hs
  refine jq_cV1 ok hR m_Pg_29 (r_Pg_get (jx_l X) D g A c S ((v1 + 4) + (2 * v2)) r2 S2  hc2) (sg_atk 11 rfl) rfl rfl rfl (Nat.le_of_ble_eq_true rfl) ⟨Nat.le_of_ble_eq_true rfl, Nat.le_of_ble_eq_true rfl⟩ ⟨Nat.zero_le _, Nat.zero_le _⟩ d_Pg_nameAt_8 ?_
  show jw X 0 0 (wtL D g A c S2) [(0, .ref (g 9)), (1, .int (ii v1)), (2, .int (ii v2))] 11 [.int (ii r2)]
  exact jm_iret (Lf := wtL D g A c) ok fin hs d_Pg_nameAt_11

def q_Tp_compare_63 (c : CW) (v5 : Int) (v6 : Int) (S : WS) : Option (Int × WS) := some (cmpI (w32 v5) (w32 v6), S)

def q_Tp_compare_14 (c : CW) : Nat → Int → Int → Int → Int → Int → WS → Option (Int × WS)
  | 0, _, _, _, _, _, _ => none
  | n + 1, v1, v3, v5, v6, v7, S => if w32 v5 ≤ w32 v7 then q_Tp_compare_63 c v5 v6 S else if w32 v6 ≤ w32 v7 then q_Tp_compare_63 c v5 v6 S else mb2 (s_Tp_byteAt c S (v1 + v7)) (fun r8 S8 => mb2 (s_Tp_byteAt c S8 (v3 + v7)) (fun r9 S9 => if w32 (cmpI (w32 r8) (w32 r9)) = 0 then (q_Tp_compare_14 c n) v1 v3 v5 v6 (v7 + 1) S9 else some (cmpI (w32 r8) (w32 r9), S9)))

def s_Tp_compare (c : CW) (S : WS) (v1 : Int) (v2 : Int) (v3 : Int) (v4 : Int) : Option (Int × WS) := q_Tp_compare_14 c fU v1 v3 (v2 - v1) (v4 - v3) 0 S
set_option maxHeartbeats 4000000 in
set_option maxRecDepth 100000 in
theorem r_Tp_compare (l : Launch) (D : jd_T) (g : Nat → Nat) (A : AW) (c : CW) (S : WS) (v1 : Int) (v2 : Int) (v3 : Int) (v4 : Int) (r : Int) (S9 : WS)  (hs : s_Tp_compare c S v1 v2 v3 v4 = some (r, S9)) : jc_C l D y_Tp_compare b_Tp_compare 9 (some .int) { frames := 1, cells := 0, slots := 0, locals := 21 } [.ref (g 1), .int (ii v1), .int (ii v2), .int (ii v3), .int (ii v4)] (wtL D g A c S) (fun _ : Unit => (.returned (some (.int (ii r))), True, wtL D g A c S9)) := by
  refine jc_of rfl (Nat.le_of_ble_eq_true rfl) ?_
  intro X hl hR hN ok hnm fin
  subst hl
  have B_63 : ∀ (v5 : Int) (v6 : Int) (S : WS), q_Tp_compare_63 c v5 v6 S = some (r, S9) → jw X 0 0 (wtL D g A c S) [(5, .int (ii v5)), (6, .int (ii v6))] 63 [] := by
    intro v5 v6 S hs
    rw [q_Tp_compare_63] at hs
    refine jr_iload ok 0 d_Tp_compare_63 rfl ?_
    refine jr_iload ok 1 d_Tp_compare_65 rfl ?_
    refine jr_mS1 ok hR m_Tp_29 (c_IcmpW (jx_l X) D v5 v6) rfl rfl (Nat.le_of_ble_eq_true rfl) ⟨Nat.le_of_ble_eq_true rfl, Nat.le_of_ble_eq_true rfl⟩ ⟨Nat.zero_le _, Nat.zero_le _⟩ d_Tp_compare_67 ?_
    exact jm_iret (Lf := wtL D g A c) ok fin hs d_Tp_compare_70
  have B_14 : ∀ (n14 : Nat), ∀ (v1 : Int) (v3 : Int) (v5 : Int) (v6 : Int) (v7 : Int) (S : WS), q_Tp_compare_14 c n14 v1 v3 v5 v6 v7 S = some (r, S9) → jw X 0 0 (wtL D g A c S) [(0, .ref (g 1)), (1, .int (ii v1)), (3, .int (ii v3)), (5, .int (ii v5)), (6, .int (ii v6)), (7, .int (ii v7))] 14 [] := by
    intro n14
    induction n14 with
    | zero =>
      intro v1 v3 v5 v6 v7 S hs
      rw [q_Tp_compare_14] at hs; cases hs
    | succ n14 ih14 =>
      intro v1 v3 v5 v6 v7 S hs
      rw [q_Tp_compare_14] at hs
      refine jr_iload ok 5 d_Tp_compare_14 rfl ?_
      refine jr_iload ok 3 d_Tp_compare_16 rfl ?_
      refine jr_wicmp_ge 63 ok rfl rfl d_Tp_compare_18 (by decide) (fun c6 => ?_) (fun c6 => ?_)
      · replace hs := oq_pos c6 hs
        exact jr_lv [3, 4] rfl (B_63 v5 v6 S hs)
      · replace hs := oq_neg c6 hs
        refine jr_iload ok 5 d_Tp_compare_21 rfl ?_
        refine jr_iload ok 4 d_Tp_compare_23 rfl ?_
        refine jr_wicmp_ge 63 ok rfl rfl d_Tp_compare_25 (by decide) (fun c7 => ?_) (fun c7 => ?_)
        · replace hs := oq_pos c7 hs
          exact jr_lv [3, 4] rfl (B_63 v5 v6 S hs)
        · replace hs := oq_neg c7 hs
          refine jr_aload_n ok 0 d_Tp_compare_28 rfl rfl ?_
          refine jr_iload_n ok 1 d_Tp_compare_29 rfl rfl ?_
          refine jr_iload ok 5 d_Tp_compare_30 rfl ?_
          refine jr_iadd ok d_Tp_compare_32 ?_
          obtain ⟨r8, S8, hc8, hs⟩ := mb2_some hs
          refine jq_cV1 ok hR m_Tp_25 (r_Tp_byteAt (jx_l X) D g A c S (v1 + v7) r8 S8  hc8) (sg_atk 1 rfl) rfl rfl rfl (Nat.le_of_ble_eq_true rfl) ⟨Nat.le_of_ble_eq_true rfl, Nat.le_of_ble_eq_true rfl⟩ ⟨Nat.zero_le _, Nat.zero_le _⟩ d_Tp_compare_33 ?_
          show jw X 0 0 (wtL D g A c S8) [(0, .ref (g 1)), (1, .int (ii v1)), (3, .int (ii v3)), (5, .int (ii v5)), (6, .int (ii v6)), (7, .int (ii v7))] 36 [.int (ii r8)]
          refine jr_aload_n ok 0 d_Tp_compare_36 rfl rfl ?_
          refine jr_iload_n ok 2 d_Tp_compare_37 rfl rfl ?_
          refine jr_iload ok 5 d_Tp_compare_38 rfl ?_
          refine jr_iadd ok d_Tp_compare_40 ?_
          obtain ⟨r9, S9, hc9, hs⟩ := mb2_some hs
          refine jq_cV1 ok hR m_Tp_25 (r_Tp_byteAt (jx_l X) D g A c S8 (v3 + v7) r9 S9  hc9) (sg_atk 1 rfl) rfl rfl rfl (Nat.le_of_ble_eq_true rfl) ⟨Nat.le_of_ble_eq_true rfl, Nat.le_of_ble_eq_true rfl⟩ ⟨Nat.zero_le _, Nat.zero_le _⟩ d_Tp_compare_41 ?_
          show jw X 0 0 (wtL D g A c S9) [(0, .ref (g 1)), (1, .int (ii v1)), (3, .int (ii v3)), (5, .int (ii v5)), (6, .int (ii v6)), (7, .int (ii v7))] 44 [.int (ii r9), .int (ii r8)]
          refine jr_mS1 ok hR m_Tp_29 (c_IcmpW (jx_l X) D r8 r9) rfl rfl (Nat.le_of_ble_eq_true rfl) ⟨Nat.le_of_ble_eq_true rfl, Nat.le_of_ble_eq_true rfl⟩ ⟨Nat.zero_le _, Nat.zero_le _⟩ d_Tp_compare_44 ?_
          refine jr_istore [(8, .int (ii (cmpI (w32 r8) (w32 r9)))), (0, .ref (g 1)), (1, .int (ii v1)), (3, .int (ii v3)), (5, .int (ii v5)), (6, .int (ii v6)), (7, .int (ii v7))] ok d_Tp_compare_47 (by rw [hN]; decide) rfl ?_
          refine jr_iload ok 0 d_Tp_compare_49 rfl ?_
          refine jr_wif_eq 57 ok rfl d_Tp_compare_51 (by decide) (fun c10 => ?_) (fun c10 => ?_)
          · replace hs := oq_pos c10 hs
            refine jr_iinc [(7, .int (ii (v7 + 1))), (8, .int (ii (cmpI (w32 r8) (w32 r9)))), (0, .ref (g 1)), (1, .int (ii v1)), (3, .int (ii v3)), (5, .int (ii v5)), (6, .int (ii v6))] 6 ok d_Tp_compare_57 rfl (by rw [hN]; decide) rfl ?_
            refine jr_goto 14 ok d_Tp_compare_60 (by decide) ?_
            exact jr_lv [2, 3, 4, 5, 6, 0] rfl (ih14 v1 v3 v5 v6 (v7 + 1) S9 hs)
          · replace hs := oq_neg c10 hs
            refine jr_iload ok 0 d_Tp_compare_54 rfl ?_
            exact jm_iret (Lf := wtL D g A c) ok fin hs d_Tp_compare_56
  show jw X 0 0 (wtL D g A c S) [(0, .ref (g 1)), (1, .int (ii v1)), (2, .int (ii v2)), (3, .int (ii v3)), (4, .int (ii v4))] 0 []
  rw [s_Tp_compare] at hs
  refine jr_iload_n ok 2 d_Tp_compare_0 rfl rfl ?_
  refine jr_iload_n ok 1 d_Tp_compare_1 rfl rfl ?_
  refine jr_isub ok d_Tp_compare_2 ?_
  refine jr_istore [(5, .int (ii (v2 - v1))), (0, .ref (g 1)), (1, .int (ii v1)), (2, .int (ii v2)), (3, .int (ii v3)), (4, .int (ii v4))] ok d_Tp_compare_3 (by rw [hN]; decide) rfl ?_
  refine jr_iload ok 5 d_Tp_compare_5 rfl ?_
  refine jr_iload_n ok 4 d_Tp_compare_7 rfl rfl ?_
  refine jr_isub ok d_Tp_compare_8 ?_
  refine jr_istore [(6, .int (ii (v4 - v3))), (5, .int (ii (v2 - v1))), (0, .ref (g 1)), (1, .int (ii v1)), (2, .int (ii v2)), (3, .int (ii v3)), (4, .int (ii v4))] ok d_Tp_compare_9 (by rw [hN]; decide) rfl ?_
  refine jr_iconst ok d_Tp_compare_11 ?_
  refine jr_istore [(7, .int (ii 0)), (6, .int (ii (v4 - v3))), (5, .int (ii (v2 - v1))), (0, .ref (g 1)), (1, .int (ii v1)), (2, .int (ii v2)), (3, .int (ii v3)), (4, .int (ii v4))] ok d_Tp_compare_12 (by rw [hN]; decide) rfl ?_
  exact jr_lv [3, 4, 6, 2, 1, 0] rfl (B_14 fU v1 v3 (v2 - v1) (v4 - v3) 0 S hs)

def q_Tp_longAt_5 (c : CW) : Nat → Int → Int64 → Int → WS → Option (Int64 × WS)
  | 0, _, _, _, _ => none
  | n + 1, v1, v2, v4, S => if 8 ≤ w32 v4 then some (v2, S) else mb2 (s_Tp_byteAt c S (v1 + v4)) (fun r4 S4 => (q_Tp_longAt_5 c n) v1 ((v2 <<< ((ii 8).toInt64 &&& 63)) ||| (ll (w32 (gAnd r4 255)))) (v4 + 1) S4)

def s_Tp_longAt (c : CW) (S : WS) (v1 : Int) : Option (Int64 × WS) := q_Tp_longAt_5 c fU v1 (ll 0) 0 S
set_option maxHeartbeats 4000000 in
set_option maxRecDepth 100000 in
theorem r_Tp_longAt (l : Launch) (D : jd_T) (g : Nat → Nat) (A : AW) (c : CW) (S : WS) (v1 : Int) (r : Int64) (S9 : WS)  (hs : s_Tp_longAt c S v1 = some (r, S9)) : jc_C l D y_Tp_longAt b_Tp_longAt 5 (some .long) { frames := 1, cells := 0, slots := 0, locals := 21 } [.ref (g 1), .int (ii v1)] (wtL D g A c S) (fun _ : Unit => (.returned (some (.long r)), True, wtL D g A c S9)) := by
  refine jc_of rfl (Nat.le_of_ble_eq_true rfl) ?_
  intro X hl hR hN ok hnm fin
  subst hl
  have B_5 : ∀ (n5 : Nat), ∀ (v1 : Int) (v2 : Int64) (v4 : Int) (S : WS), q_Tp_longAt_5 c n5 v1 v2 v4 S = some (r, S9) → jw X 0 0 (wtL D g A c S) [(0, .ref (g 1)), (1, .int (ii v1)), (2, .long v2), (4, .int (ii v4))] 5 [] := by
    intro n5
    induction n5 with
    | zero =>
      intro v1 v2 v4 S hs
      rw [q_Tp_longAt_5] at hs; cases hs
    | succ n5 ih5 =>
      intro v1 v2 v4 S hs
      rw [q_Tp_longAt_5] at hs
      refine jr_iload ok 3 d_Tp_longAt_5 rfl ?_
      refine jr_bipush ok d_Tp_longAt_7 (by decide +kernel) ?_
      refine jr_wicmp_ge 37 ok rfl (show w32 8 = 8 by decide) d_Tp_longAt_9 (by decide) (fun c3 => ?_) (fun c3 => ?_)
      · replace hs := oq_pos c3 hs
        refine jr_lload_n ok 2 d_Tp_longAt_37 rfl rfl ?_
        exact jm_lret (Lf := wtL D g A c) ok fin hs d_Tp_longAt_38
      · replace hs := oq_neg c3 hs
        refine jr_lload_n ok 2 d_Tp_longAt_12 rfl rfl ?_
        refine jr_bipush ok d_Tp_longAt_13 (by decide +kernel) ?_
        refine jr_lshlx ok d_Tp_longAt_15 ?_
        refine jr_aload_n ok 0 d_Tp_longAt_16 rfl rfl ?_
        refine jr_iload_n ok 1 d_Tp_longAt_17 rfl rfl ?_
        refine jr_iload ok 3 d_Tp_longAt_18 rfl ?_
        refine jr_iadd ok d_Tp_longAt_20 ?_
        obtain ⟨r4, S4, hc4, hs⟩ := mb2_some hs
        refine jq_cV1 ok hR m_Tp_25 (r_Tp_byteAt (jx_l X) D g A c S (v1 + v4) r4 S4  hc4) (sg_atk 1 rfl) rfl rfl rfl (Nat.le_of_ble_eq_true rfl) ⟨Nat.le_of_ble_eq_true rfl, Nat.le_of_ble_eq_true rfl⟩ ⟨Nat.zero_le _, Nat.zero_le _⟩ d_Tp_longAt_21 ?_
        show jw X 0 0 (wtL D g A c S4) [(0, .ref (g 1)), (1, .int (ii v1)), (2, .long v2), (4, .int (ii v4))] 24 [.int (ii r4), .long (v2 <<< ((ii 8).toInt64 &&& 63))]
        refine jr_sipush ok d_Tp_longAt_24 (by decide +kernel) ?_
        refine jr_iand (z := gAnd r4 255) ok d_Tp_longAt_27 (ii_of _).symm ?_
        refine jr_wi2l ok rfl d_Tp_longAt_28 ?_
        refine jr_lorx ok d_Tp_longAt_29 ?_
        refine jr_lstore_n [(2, .long ((v2 <<< ((ii 8).toInt64 &&& 63)) ||| (ll (w32 (gAnd r4 255))))), (0, .ref (g 1)), (1, .int (ii v1)), (4, .int (ii v4))] ok d_Tp_longAt_30 rfl (by rw [hN]; decide) rfl ?_
        refine jr_iinc [(4, .int (ii (v4 + 1))), (2, .long ((v2 <<< ((ii 8).toInt64 &&& 63)) ||| (ll (w32 (gAnd r4 255))))), (0, .ref (g 1)), (1, .int (ii v1))] 3 ok d_Tp_longAt_31 rfl (by rw [hN]; decide) rfl ?_
        refine jr_goto 5 ok d_Tp_longAt_34 (by decide) ?_
        exact jr_lv [2, 3, 1, 0] rfl (ih5 v1 ((v2 <<< ((ii 8).toInt64 &&& 63)) ||| (ll (w32 (gAnd r4 255)))) (v4 + 1) S4 hs)
  show jw X 0 0 (wtL D g A c S) [(0, .ref (g 1)), (1, .int (ii v1))] 0 []
  rw [s_Tp_longAt] at hs
  refine jr_lconst (z := 0) ok d_Tp_longAt_0 (by decide +kernel) ?_
  refine jr_lstore_n [(2, .long (ll 0)), (0, .ref (g 1)), (1, .int (ii v1))] ok d_Tp_longAt_1 rfl (by rw [hN]; decide) rfl ?_
  refine jr_iconst ok d_Tp_longAt_2 ?_
  refine jr_istore [(4, .int (ii 0)), (2, .long (ll 0)), (0, .ref (g 1)), (1, .int (ii v1))] ok d_Tp_longAt_3 (by rw [hN]; decide) rfl ?_
  exact jr_lv [2, 3, 1, 0] rfl (B_5 fU v1 (ll 0) 0 S hs)

def q_Ev_combine_203 (c : CW) (v4 : Nat) (t0 : Nat) (t1 : Int) (S : WS) : Option (Unit × WS) := if (0 : Int) ≤ t1 ∧ t1 < (19 : Int) then if (0 : Int) ≤ (S.ev_height - 2) ∧ (S.ev_height - 2) < (19 : Int) then some ((), WS.w_ev_height (WS.w_ev_stack S (aU (aU S.ev_stack t1 t0) (S.ev_height - 2) v4)) (S.ev_height - 1)) else none else none

def q_Ev_combine_170 (c : CW) (k50 : Int → Nat → Nat → Nat → Int → WS → Option (Unit × WS)) (k63 : Int → Nat → Nat → Nat → Int → Int → WS → Option (Unit × WS)) (v1 : Int) (v2 : Nat) (v3 : Nat) (v4 : Nat) (v5 : Int) (v6 : Int) (S : WS) : Option (Unit × WS) := k63 v1 v2 v3 v4 v5 (v6 + 1) S

def q_Ev_combine_156 (c : CW) (k50 : Int → Nat → Nat → Nat → Int → WS → Option (Unit × WS)) (k63 : Int → Nat → Nat → Nat → Int → Int → WS → Option (Unit × WS)) (v1 : Int) (v2 : Nat) (v3 : Nat) (v4 : Nat) (v5 : Int) (v6 : Int) (S : WS) : Option (Unit × WS) := mb2 (s_Gd_placeOf c S v4 v5 v6) (fun r48 S48 => mb2 (s_Gd_clear c S48 v4 r48) (fun r49 S49 => q_Ev_combine_170 c k50 k63 v1 v2 v3 v4 v5 v6 S49))

def q_Ev_combine_63 (c : CW) (k50 : Int → Nat → Nat → Nat → Int → WS → Option (Unit × WS)) : Nat → Int → Nat → Nat → Nat → Int → Int → WS → Option (Unit × WS)
  | 0, _, _, _, _, _, _, _ => none
  | n + 1, v1, v2, v3, v4, v5, v6, S => if w32 S.ev_windows ≤ w32 v6 then k50 v1 v2 v3 v4 (v5 + 1) S else mb2 (s_Gd_placeOf c S v2 v5 v6) (fun r34 S34 => mb2 (s_Gd_placeOf c S34 v3 v5 v6) (fun r35 S35 => mb2 (s_Gd_has c S35 v2 r34) (fun r36 S36 => if w32 r36 = 0 then q_Ev_combine_156 c k50 (q_Ev_combine_63 c k50 n) v1 v2 v3 v4 v5 v6 S36 else mb2 (s_Gd_has c S36 v3 r35) (fun r38 S38 => if w32 r38 = 0 then q_Ev_combine_156 c k50 (q_Ev_combine_63 c k50 n) v1 v2 v3 v4 v5 v6 S38 else mb2 (s_Gd_numberAt c S38 v3 r35) (fun r40 S40 => mb1 (s_Ev_isAllowed v1 r40) (fun r41 => if w32 r41 = 0 then q_Ev_combine_156 c k50 (q_Ev_combine_63 c k50 n) v1 v2 v3 v4 v5 v6 S40 else mb2 (s_Gd_placeOf c S40 v4 v5 v6) (fun r43 S43 => mb2 (s_Gd_numberAt c S43 v2 r34) (fun r44 S44 => mb2 (s_Gd_numberAt c S44 v3 r35) (fun r45 S45 => mb1 (s_Ev_resultOf v1 r44 r45) (fun r46 => mb2 (s_Gd_put c S45 v4 r43 r46) (fun r47 S47 => q_Ev_combine_170 c k50 (q_Ev_combine_63 c k50 n) v1 v2 v3 v4 v5 v6 S47)))))))))))

def q_Ev_combine_50 (c : CW) : Nat → Int → Nat → Nat → Nat → Int → WS → Option (Unit × WS)
  | 0, _, _, _, _, _, _ => none
  | n + 1, v1, v2, v3, v4, v5, S => mb2 (s_Gd_lines c S v4) (fun r30 S30 => if w32 r30 ≤ w32 v5 then if v4 = v2 then q_Ev_combine_203 c v4 v3 (S30.ev_height - 1) S30 else q_Ev_combine_203 c v4 v2 (S30.ev_height - 1) S30 else q_Ev_combine_63 c (q_Ev_combine_50 c n) fU v1 v2 v3 v4 v5 0 S30)

def q_Ev_combine_45 (c : CW) (v1 : Int) (v2 : Nat) (v3 : Nat) (t0 : Nat) (S : WS) : Option (Unit × WS) := q_Ev_combine_50 c fU v1 v2 v3 t0 0 S

def s_Ev_combine (c : CW) (S : WS) (v1 : Int) : Option (Unit × WS) := if 2 ≤ w32 S.ev_height then if (0 : Int) ≤ (S.ev_height - 2) ∧ (S.ev_height - 2) < (19 : Int) then if S.ev_stack (S.ev_height - 2) < 19 then if (0 : Int) ≤ (S.ev_height - 1) ∧ (S.ev_height - 1) < (19 : Int) then if S.ev_stack (S.ev_height - 1) < 19 then mb2 (s_Gd_isNamed c S (S.ev_stack (S.ev_height - 1))) (fun r57 S57 => if w32 r57 = 0 then q_Ev_combine_45 c v1 (S.ev_stack (S.ev_height - 2)) (S.ev_stack (S.ev_height - 1)) (S.ev_stack (S.ev_height - 2)) S57 else q_Ev_combine_45 c v1 (S.ev_stack (S.ev_height - 2)) (S.ev_stack (S.ev_height - 1)) (S.ev_stack (S.ev_height - 1)) S57) else none else none else none else none else some ((), S)
set_option maxHeartbeats 4000000 in
set_option maxRecDepth 100000 in
theorem r_Ev_combine (l : Launch) (D : jd_T) (g : Nat → Nat) (A : AW) (c : CW) (S : WS) (v1 : Int) (r : Unit) (S9 : WS)  (hs : s_Ev_combine c S v1 = some (r, S9)) : jc_C l D y_Ev_combine b_Ev_combine 9 none { frames := 2, cells := 0, slots := 0, locals := 42 } [.ref (g 17), .int (ii v1)] (wtL D g A c S) (fun _ : Unit => (.returned (none), True, wtL D g A c S9)) := by
  refine jc_of rfl (Nat.le_of_ble_eq_true rfl) ?_
  intro X hl hR hN ok hnm fin
  subst hl
  have B_203 : ∀ (v4 : Nat) (t0 : Nat) (t1 : Int) (S : WS), v4 < 19 → t0 < 19 → q_Ev_combine_203 c v4 t0 t1 S = some (r, S9) → jw X 0 0 (wtL D g A c S) [(0, .ref (g 17)), (4, .ref (g (19 + v4)))] 203 [.ref (g (19 + t0)), .int (ii t1), .ref (g 18)] := by
    intro v4 t0 t1 S hv4 ht0 hs
    rw [q_Ev_combine_203] at hs
    obtain ⟨hb50, hs⟩ := oq_if hs
    refine jq_aast (wtL D g A c (WS.w_ev_stack S (aU S.ev_stack t1 t0))) ok 21 rfl (sg_atp (F := grdW D g A c S) 23 rfl ht0 0 rfl) rfl rfl hb50.1 hb50.2 ((congrArg (fun z => List.set (wtL D g A c S) 21 z) (stk_set D g S.ev_stack t1 t0)).trans rfl) d_Ev_combine_203 ?_
    refine jr_aload_n ok 0 d_Ev_combine_204 rfl rfl ?_
    refine jr_get (v := .ref (g 18)) ok 20 f_Ev_11 rfl rfl d_Ev_combine_205 ?_
    refine jr_aload_n ok 0 d_Ev_combine_208 rfl rfl ?_
    refine jr_get (v := .int (ii S.ev_height)) ok 20 f_Ev_49 rfl rfl d_Ev_combine_209 ?_
    refine jr_iconst ok d_Ev_combine_212 ?_
    refine jr_isub ok d_Ev_combine_213 ?_
    refine jr_aload ok 1 d_Ev_combine_214 rfl ?_
    obtain ⟨hb51, hs⟩ := oq_if hs
    refine jq_aast (wtL D g A c (WS.w_ev_stack S (aU (aU S.ev_stack t1 t0) (S.ev_height - 2) v4))) ok 21 rfl (sg_atp (F := grdW D g A c (WS.w_ev_stack S (aU S.ev_stack t1 t0))) 23 rfl hv4 0 rfl) rfl rfl hb51.1 hb51.2 ((congrArg (fun z => List.set (wtL D g A c (WS.w_ev_stack S (aU S.ev_stack t1 t0))) 21 z) (stk_set D g (aU S.ev_stack t1 t0) (S.ev_height - 2) v4)).trans rfl) d_Ev_combine_216 ?_
    refine jr_aload_n ok 0 d_Ev_combine_217 rfl rfl ?_
    refine jr_dup rfl ok d_Ev_combine_218 ?_
    refine jr_get (v := .int (ii S.ev_height)) ok 20 f_Ev_49 rfl rfl d_Ev_combine_219 ?_
    refine jr_iconst ok d_Ev_combine_222 ?_
    refine jr_isub ok d_Ev_combine_223 ?_
    refine jr_put (wtL D g A c (WS.w_ev_height (WS.w_ev_stack S (aU (aU S.ev_stack t1 t0) (S.ev_height - 2) v4)) (S.ev_height - 1))) ok 20 f_Ev_49 rfl rfl rfl (Nat.le_of_ble_eq_true rfl) rfl d_Ev_combine_224 ?_
    exact jm_vret (Lf := wtL D g A c) ok fin hs d_Ev_combine_227
  have B_50 : ∀ (n50 : Nat), ∀ (v1 : Int) (v2 : Nat) (v3 : Nat) (v4 : Nat) (v5 : Int) (S : WS), v2 < 19 → v3 < 19 → v4 < 19 → q_Ev_combine_50 c n50 v1 v2 v3 v4 v5 S = some (r, S9) → jw X 0 0 (wtL D g A c S) [(0, .ref (g 17)), (1, .int (ii v1)), (2, .ref (g (19 + v2))), (3, .ref (g (19 + v3))), (4, .ref (g (19 + v4))), (5, .int (ii v5))] 50 [] := by
    intro n50
    induction n50 with
    | zero =>
      intro v1 v2 v3 v4 v5 S hv2 hv3 hv4 hs
      rw [q_Ev_combine_50] at hs; cases hs
    | succ n50 ih50 =>
      have B_63 : ∀ (n63 : Nat), ∀ (v1 : Int) (v2 : Nat) (v3 : Nat) (v4 : Nat) (v5 : Int) (v6 : Int) (S : WS), v2 < 19 → v3 < 19 → v4 < 19 → q_Ev_combine_63 c (q_Ev_combine_50 c n50) n63 v1 v2 v3 v4 v5 v6 S = some (r, S9) → jw X 0 0 (wtL D g A c S) [(0, .ref (g 17)), (1, .int (ii v1)), (2, .ref (g (19 + v2))), (3, .ref (g (19 + v3))), (4, .ref (g (19 + v4))), (5, .int (ii v5)), (6, .int (ii v6))] 63 [] := by
        intro n63
        induction n63 with
        | zero =>
          intro v1 v2 v3 v4 v5 v6 S hv2 hv3 hv4 hs
          rw [q_Ev_combine_63] at hs; cases hs
        | succ n63 ih63 =>
          have B_170 : ∀ (v1 : Int) (v2 : Nat) (v3 : Nat) (v4 : Nat) (v5 : Int) (v6 : Int) (S : WS), v2 < 19 → v3 < 19 → v4 < 19 → q_Ev_combine_170 c (q_Ev_combine_50 c n50) (q_Ev_combine_63 c (q_Ev_combine_50 c n50) n63) v1 v2 v3 v4 v5 v6 S = some (r, S9) → jw X 0 0 (wtL D g A c S) [(0, .ref (g 17)), (1, .int (ii v1)), (2, .ref (g (19 + v2))), (3, .ref (g (19 + v3))), (4, .ref (g (19 + v4))), (5, .int (ii v5)), (6, .int (ii v6))] 170 [] := by
            intro v1 v2 v3 v4 v5 v6 S hv2 hv3 hv4 hs
            rw [q_Ev_combine_170] at hs
            refine jr_iinc [(6, .int (ii (v6 + 1))), (0, .ref (g 17)), (1, .int (ii v1)), (2, .ref (g (19 + v2))), (3, .ref (g (19 + v3))), (4, .ref (g (19 + v4))), (5, .int (ii v5))] 6 ok d_Ev_combine_170 rfl (by rw [hN]; decide) rfl ?_
            refine jr_goto 63 ok d_Ev_combine_173 (by decide) ?_
            exact jr_lv [1, 2, 3, 4, 5, 6, 0] rfl (ih63 v1 v2 v3 v4 v5 (v6 + 1) S hv2 hv3 hv4 hs)
          have B_156 : ∀ (v1 : Int) (v2 : Nat) (v3 : Nat) (v4 : Nat) (v5 : Int) (v6 : Int) (S : WS), v2 < 19 → v3 < 19 → v4 < 19 → q_Ev_combine_156 c (q_Ev_combine_50 c n50) (q_Ev_combine_63 c (q_Ev_combine_50 c n50) n63) v1 v2 v3 v4 v5 v6 S = some (r, S9) → jw X 0 0 (wtL D g A c S) [(0, .ref (g 17)), (1, .int (ii v1)), (2, .ref (g (19 + v2))), (3, .ref (g (19 + v3))), (4, .ref (g (19 + v4))), (5, .int (ii v5)), (6, .int (ii v6))] 156 [] := by
            intro v1 v2 v3 v4 v5 v6 S hv2 hv3 hv4 hs
            rw [q_Ev_combine_156] at hs
            refine jr_aload ok 4 d_Ev_combine_156 rfl ?_
            refine jr_aload ok 4 d_Ev_combine_158 rfl ?_
            refine jr_iload ok 5 d_Ev_combine_160 rfl ?_
            refine jr_iload ok 6 d_Ev_combine_162 rfl ?_
            obtain ⟨r48, S48, hc48, hs⟩ := mb2_some hs
            refine jq_cV1 ok hR m_Ev_111 (r_Gd_placeOf (jx_l X) D g A c S v4 v5 v6 r48 S48 hv4 hc48) (sg_atp (F := grdW D g A c S) 23 rfl hv4 0 rfl) rfl rfl rfl (Nat.le_of_ble_eq_true rfl) ⟨Nat.le_of_ble_eq_true rfl, Nat.le_of_ble_eq_true rfl⟩ ⟨Nat.zero_le _, Nat.zero_le _⟩ d_Ev_combine_164 ?_
            show jw X 0 0 (wtL D g A c S48) [(0, .ref (g 17)), (1, .int (ii v1)), (2, .ref (g (19 + v2))), (3, .ref (g (19 + v3))), (4, .ref (g (19 + v4))), (5, .int (ii v5)), (6, .int (ii v6))] 167 [.int (ii r48), .ref (g (19 + v4))]
            obtain ⟨r49, S49, hc49, hs⟩ := mb2_some hs
            refine jq_cV0 ok hR m_Ev_133 (r_Gd_clear (jx_l X) D g A c S48 v4 r48 r49 S49 hv4 hc49) (sg_atp (F := grdW D g A c S48) 23 rfl hv4 0 rfl) rfl rfl rfl (Nat.le_of_ble_eq_true rfl) ⟨Nat.le_of_ble_eq_true rfl, Nat.le_of_ble_eq_true rfl⟩ ⟨Nat.zero_le _, Nat.zero_le _⟩ d_Ev_combine_167 ?_
            show jw X 0 0 (wtL D g A c S49) [(0, .ref (g 17)), (1, .int (ii v1)), (2, .ref (g (19 + v2))), (3, .ref (g (19 + v3))), (4, .ref (g (19 + v4))), (5, .int (ii v5)), (6, .int (ii v6))] 170 []
            exact jr_lv [0, 1, 2, 3, 4, 5, 6] rfl (B_170 v1 v2 v3 v4 v5 v6 S49 hv2 hv3 hv4 hs)
          intro v1 v2 v3 v4 v5 v6 S hv2 hv3 hv4 hs
          rw [q_Ev_combine_63] at hs
          refine jr_iload ok 6 d_Ev_combine_63 rfl ?_
          refine jr_aload_n ok 0 d_Ev_combine_65 rfl rfl ?_
          refine jr_get (v := .int (ii S.ev_windows)) ok 20 f_Ev_45 rfl rfl d_Ev_combine_66 ?_
          refine jr_wicmp_ge 176 ok rfl rfl d_Ev_combine_69 (by decide) (fun c33 => ?_) (fun c33 => ?_)
          · replace hs := oq_pos c33 hs
            refine jr_iinc [(5, .int (ii (v5 + 1))), (0, .ref (g 17)), (1, .int (ii v1)), (2, .ref (g (19 + v2))), (3, .ref (g (19 + v3))), (4, .ref (g (19 + v4))), (6, .int (ii v6))] 5 ok d_Ev_combine_176 rfl (by rw [hN]; decide) rfl ?_
            refine jr_goto 50 ok d_Ev_combine_179 (by decide) ?_
            exact jr_lv [1, 2, 3, 4, 5, 0] rfl (ih50 v1 v2 v3 v4 (v5 + 1) S hv2 hv3 hv4 hs)
          · replace hs := oq_neg c33 hs
            refine jr_aload_n ok 2 d_Ev_combine_72 rfl rfl ?_
            refine jr_iload ok 5 d_Ev_combine_73 rfl ?_
            refine jr_iload ok 6 d_Ev_combine_75 rfl ?_
            obtain ⟨r34, S34, hc34, hs⟩ := mb2_some hs
            refine jq_cV1 ok hR m_Ev_111 (r_Gd_placeOf (jx_l X) D g A c S v2 v5 v6 r34 S34 hv2 hc34) (sg_atp (F := grdW D g A c S) 23 rfl hv2 0 rfl) rfl rfl rfl (Nat.le_of_ble_eq_true rfl) ⟨Nat.le_of_ble_eq_true rfl, Nat.le_of_ble_eq_true rfl⟩ ⟨Nat.zero_le _, Nat.zero_le _⟩ d_Ev_combine_77 ?_
            show jw X 0 0 (wtL D g A c S34) [(0, .ref (g 17)), (1, .int (ii v1)), (2, .ref (g (19 + v2))), (3, .ref (g (19 + v3))), (4, .ref (g (19 + v4))), (5, .int (ii v5)), (6, .int (ii v6))] 80 [.int (ii r34)]
            refine jr_istore [(7, .int (ii r34)), (0, .ref (g 17)), (1, .int (ii v1)), (2, .ref (g (19 + v2))), (3, .ref (g (19 + v3))), (4, .ref (g (19 + v4))), (5, .int (ii v5)), (6, .int (ii v6))] ok d_Ev_combine_80 (by rw [hN]; decide) rfl ?_
            refine jr_aload_n ok 4 d_Ev_combine_82 rfl rfl ?_
            refine jr_iload ok 6 d_Ev_combine_83 rfl ?_
            refine jr_iload ok 7 d_Ev_combine_85 rfl ?_
            obtain ⟨r35, S35, hc35, hs⟩ := mb2_some hs
            refine jq_cV1 ok hR m_Ev_111 (r_Gd_placeOf (jx_l X) D g A c S34 v3 v5 v6 r35 S35 hv3 hc35) (sg_atp (F := grdW D g A c S34) 23 rfl hv3 0 rfl) rfl rfl rfl (Nat.le_of_ble_eq_true rfl) ⟨Nat.le_of_ble_eq_true rfl, Nat.le_of_ble_eq_true rfl⟩ ⟨Nat.zero_le _, Nat.zero_le _⟩ d_Ev_combine_87 ?_
            show jw X 0 0 (wtL D g A c S35) [(7, .int (ii r34)), (0, .ref (g 17)), (1, .int (ii v1)), (2, .ref (g (19 + v2))), (3, .ref (g (19 + v3))), (4, .ref (g (19 + v4))), (5, .int (ii v5)), (6, .int (ii v6))] 90 [.int (ii r35)]
            refine jr_istore [(8, .int (ii r35)), (7, .int (ii r34)), (0, .ref (g 17)), (1, .int (ii v1)), (2, .ref (g (19 + v2))), (3, .ref (g (19 + v3))), (4, .ref (g (19 + v4))), (5, .int (ii v5)), (6, .int (ii v6))] ok d_Ev_combine_90 (by rw [hN]; decide) rfl ?_
            refine jr_aload_n ok 4 d_Ev_combine_92 rfl rfl ?_
            refine jr_iload ok 1 d_Ev_combine_93 rfl ?_
            obtain ⟨r36, S36, hc36, hs⟩ := mb2_some hs
            refine jq_cV1 ok hR m_Ev_114 (r_Gd_has (jx_l X) D g A c S35 v2 r34 r36 S36 hv2 hc36) (sg_atp (F := grdW D g A c S35) 23 rfl hv2 0 rfl) rfl rfl rfl (Nat.le_of_ble_eq_true rfl) ⟨Nat.le_of_ble_eq_true rfl, Nat.le_of_ble_eq_true rfl⟩ ⟨Nat.zero_le _, Nat.zero_le _⟩ d_Ev_combine_95 ?_
            show jw X 0 0 (wtL D g A c S36) [(8, .int (ii r35)), (7, .int (ii r34)), (0, .ref (g 17)), (1, .int (ii v1)), (2, .ref (g (19 + v2))), (3, .ref (g (19 + v3))), (4, .ref (g (19 + v4))), (5, .int (ii v5)), (6, .int (ii v6))] 98 [.int (ii r36)]
            refine jr_wif_eq 156 ok rfl d_Ev_combine_98 (by decide) (fun c37 => ?_) (fun c37 => ?_)
            · replace hs := oq_pos c37 hs
              exact jr_lv [2, 3, 4, 5, 6, 7, 8] rfl (B_156 v1 v2 v3 v4 v5 v6 S36 hv2 hv3 hv4 hs)
            · replace hs := oq_neg c37 hs
              refine jr_aload_n ok 5 d_Ev_combine_101 rfl rfl ?_
              refine jr_iload ok 0 d_Ev_combine_102 rfl ?_
              obtain ⟨r38, S38, hc38, hs⟩ := mb2_some hs
              refine jq_cV1 ok hR m_Ev_114 (r_Gd_has (jx_l X) D g A c S36 v3 r35 r38 S38 hv3 hc38) (sg_atp (F := grdW D g A c S36) 23 rfl hv3 0 rfl) rfl rfl rfl (Nat.le_of_ble_eq_true rfl) ⟨Nat.le_of_ble_eq_true rfl, Nat.le_of_ble_eq_true rfl⟩ ⟨Nat.zero_le _, Nat.zero_le _⟩ d_Ev_combine_104 ?_
              show jw X 0 0 (wtL D g A c S38) [(8, .int (ii r35)), (7, .int (ii r34)), (0, .ref (g 17)), (1, .int (ii v1)), (2, .ref (g (19 + v2))), (3, .ref (g (19 + v3))), (4, .ref (g (19 + v4))), (5, .int (ii v5)), (6, .int (ii v6))] 107 [.int (ii r38)]
              refine jr_wif_eq 156 ok rfl d_Ev_combine_107 (by decide) (fun c39 => ?_) (fun c39 => ?_)
              · replace hs := oq_pos c39 hs
                exact jr_lv [2, 3, 4, 5, 6, 7, 8] rfl (B_156 v1 v2 v3 v4 v5 v6 S38 hv2 hv3 hv4 hs)
              · replace hs := oq_neg c39 hs
                refine jr_iload_n ok 3 d_Ev_combine_110 rfl rfl ?_
                refine jr_aload_n ok 5 d_Ev_combine_111 rfl rfl ?_
                refine jr_iload ok 0 d_Ev_combine_112 rfl ?_
                obtain ⟨r40, S40, hc40, hs⟩ := mb2_some hs
                refine jq_cV1 ok hR m_Ev_118 (r_Gd_numberAt (jx_l X) D g A c S38 v3 r35 r40 S40 hv3 hc40) (sg_atp (F := grdW D g A c S38) 23 rfl hv3 0 rfl) rfl rfl rfl (Nat.le_of_ble_eq_true rfl) ⟨Nat.le_of_ble_eq_true rfl, Nat.le_of_ble_eq_true rfl⟩ ⟨Nat.zero_le _, Nat.zero_le _⟩ d_Ev_combine_114 ?_
                show jw X 0 0 (wtL D g A c S40) [(8, .int (ii r35)), (7, .int (ii r34)), (0, .ref (g 17)), (1, .int (ii v1)), (2, .ref (g (19 + v2))), (3, .ref (g (19 + v3))), (4, .ref (g (19 + v4))), (5, .int (ii v5)), (6, .int (ii v6))] 117 [.long r40, .int (ii v1)]
                obtain ⟨r41, hc41, hs⟩ := mb1_some hs
                refine jr_mS1 ok hR m_Ev_125 (r_Ev_isAllowed (jx_l X) D v1 r40 r41 hc41) rfl rfl (Nat.le_of_ble_eq_true rfl) ⟨Nat.le_of_ble_eq_true rfl, Nat.le_of_ble_eq_true rfl⟩ ⟨Nat.zero_le _, Nat.zero_le _⟩ d_Ev_combine_117 ?_
                show jw X 0 0 (wtL D g A c S40) [(8, .int (ii r35)), (7, .int (ii r34)), (0, .ref (g 17)), (1, .int (ii v1)), (2, .ref (g (19 + v2))), (3, .ref (g (19 + v3))), (4, .ref (g (19 + v4))), (5, .int (ii v5)), (6, .int (ii v6))] 120 [.int (ii r41)]
                refine jr_wif_eq 156 ok rfl d_Ev_combine_120 (by decide) (fun c42 => ?_) (fun c42 => ?_)
                · replace hs := oq_pos c42 hs
                  exact jr_lv [2, 3, 4, 5, 6, 7, 8] rfl (B_156 v1 v2 v3 v4 v5 v6 S40 hv2 hv3 hv4 hs)
                · replace hs := oq_neg c42 hs
                  refine jr_aload ok 6 d_Ev_combine_123 rfl ?_
                  refine jr_aload ok 6 d_Ev_combine_125 rfl ?_
                  refine jr_iload ok 7 d_Ev_combine_127 rfl ?_
                  refine jr_iload ok 8 d_Ev_combine_129 rfl ?_
                  obtain ⟨r43, S43, hc43, hs⟩ := mb2_some hs
                  refine jq_cV1 ok hR m_Ev_111 (r_Gd_placeOf (jx_l X) D g A c S40 v4 v5 v6 r43 S43 hv4 hc43) (sg_atp (F := grdW D g A c S40) 23 rfl hv4 0 rfl) rfl rfl rfl (Nat.le_of_ble_eq_true rfl) ⟨Nat.le_of_ble_eq_true rfl, Nat.le_of_ble_eq_true rfl⟩ ⟨Nat.zero_le _, Nat.zero_le _⟩ d_Ev_combine_131 ?_
                  show jw X 0 0 (wtL D g A c S43) [(8, .int (ii r35)), (7, .int (ii r34)), (0, .ref (g 17)), (1, .int (ii v1)), (2, .ref (g (19 + v2))), (3, .ref (g (19 + v3))), (4, .ref (g (19 + v4))), (5, .int (ii v5)), (6, .int (ii v6))] 134 [.int (ii r43), .ref (g (19 + v4))]
                  refine jr_iload_n ok 3 d_Ev_combine_134 rfl rfl ?_
                  refine jr_aload_n ok 4 d_Ev_combine_135 rfl rfl ?_
                  refine jr_iload ok 1 d_Ev_combine_136 rfl ?_
                  obtain ⟨r44, S44, hc44, hs⟩ := mb2_some hs
                  refine jq_cV1 ok hR m_Ev_118 (r_Gd_numberAt (jx_l X) D g A c S43 v2 r34 r44 S44 hv2 hc44) (sg_atp (F := grdW D g A c S43) 23 rfl hv2 0 rfl) rfl rfl rfl (Nat.le_of_ble_eq_true rfl) ⟨Nat.le_of_ble_eq_true rfl, Nat.le_of_ble_eq_true rfl⟩ ⟨Nat.zero_le _, Nat.zero_le _⟩ d_Ev_combine_138 ?_
                  show jw X 0 0 (wtL D g A c S44) [(8, .int (ii r35)), (7, .int (ii r34)), (0, .ref (g 17)), (1, .int (ii v1)), (2, .ref (g (19 + v2))), (3, .ref (g (19 + v3))), (4, .ref (g (19 + v4))), (5, .int (ii v5)), (6, .int (ii v6))] 141 [.long r44, .int (ii v1), .int (ii r43), .ref (g (19 + v4))]
                  refine jr_aload_n ok 5 d_Ev_combine_141 rfl rfl ?_
                  refine jr_iload ok 0 d_Ev_combine_142 rfl ?_
                  obtain ⟨r45, S45, hc45, hs⟩ := mb2_some hs
                  refine jq_cV1 ok hR m_Ev_118 (r_Gd_numberAt (jx_l X) D g A c S44 v3 r35 r45 S45 hv3 hc45) (sg_atp (F := grdW D g A c S44) 23 rfl hv3 0 rfl) rfl rfl rfl (Nat.le_of_ble_eq_true rfl) ⟨Nat.le_of_ble_eq_true rfl, Nat.le_of_ble_eq_true rfl⟩ ⟨Nat.zero_le _, Nat.zero_le _⟩ d_Ev_combine_144 ?_
                  show jw X 0 0 (wtL D g A c S45) [(8, .int (ii r35)), (7, .int (ii r34)), (0, .ref (g 17)), (1, .int (ii v1)), (2, .ref (g (19 + v2))), (3, .ref (g (19 + v3))), (4, .ref (g (19 + v4))), (5, .int (ii v5)), (6, .int (ii v6))] 147 [.long r45, .long r44, .int (ii v1), .int (ii r43), .ref (g (19 + v4))]
                  obtain ⟨r46, hc46, hs⟩ := mb1_some hs
                  refine jr_mS1 ok hR m_Ev_129 (r_Ev_resultOf (jx_l X) D v1 r44 r45 r46 hc46) rfl rfl (Nat.le_of_ble_eq_true rfl) ⟨Nat.le_of_ble_eq_true rfl, Nat.le_of_ble_eq_true rfl⟩ ⟨Nat.zero_le _, Nat.zero_le _⟩ d_Ev_combine_147 ?_
                  show jw X 0 0 (wtL D g A c S45) [(8, .int (ii r35)), (7, .int (ii r34)), (0, .ref (g 17)), (1, .int (ii v1)), (2, .ref (g (19 + v2))), (3, .ref (g (19 + v3))), (4, .ref (g (19 + v4))), (5, .int (ii v5)), (6, .int (ii v6))] 150 [.long r46, .int (ii r43), .ref (g (19 + v4))]
                  obtain ⟨r47, S47, hc47, hs⟩ := mb2_some hs
                  refine jq_cV0 ok hR m_Ev_107 (r_Gd_put (jx_l X) D g A c S45 v4 r43 r46 r47 S47 hv4 hc47) (sg_atp (F := grdW D g A c S45) 23 rfl hv4 0 rfl) rfl rfl rfl (Nat.le_of_ble_eq_true rfl) ⟨Nat.le_of_ble_eq_true rfl, Nat.le_of_ble_eq_true rfl⟩ ⟨Nat.zero_le _, Nat.zero_le _⟩ d_Ev_combine_150 ?_
                  show jw X 0 0 (wtL D g A c S47) [(8, .int (ii r35)), (7, .int (ii r34)), (0, .ref (g 17)), (1, .int (ii v1)), (2, .ref (g (19 + v2))), (3, .ref (g (19 + v3))), (4, .ref (g (19 + v4))), (5, .int (ii v5)), (6, .int (ii v6))] 153 []
                  refine jr_goto 170 ok d_Ev_combine_153 (by decide) ?_
                  exact jr_lv [2, 3, 4, 5, 6, 7, 8] rfl (B_170 v1 v2 v3 v4 v5 v6 S47 hv2 hv3 hv4 hs)
      intro v1 v2 v3 v4 v5 S hv2 hv3 hv4 hs
      rw [q_Ev_combine_50] at hs
      refine jr_iload ok 5 d_Ev_combine_50 rfl ?_
      refine jr_aload ok 4 d_Ev_combine_52 rfl ?_
      obtain ⟨r30, S30, hc30, hs⟩ := mb2_some hs
      refine jq_cV1 ok hR m_Ev_96 (r_Gd_lines (jx_l X) D g A c S v4 r30 S30 hv4 hc30) (sg_atp (F := grdW D g A c S) 23 rfl hv4 0 rfl) rfl rfl rfl (Nat.le_of_ble_eq_true rfl) ⟨Nat.le_of_ble_eq_true rfl, Nat.le_of_ble_eq_true rfl⟩ ⟨Nat.zero_le _, Nat.zero_le _⟩ d_Ev_combine_54 ?_
      show jw X 0 0 (wtL D g A c S30) [(0, .ref (g 17)), (1, .int (ii v1)), (2, .ref (g (19 + v2))), (3, .ref (g (19 + v3))), (4, .ref (g (19 + v4))), (5, .int (ii v5))] 57 [.int (ii r30), .int (ii v5)]
      refine jr_wicmp_ge 182 ok rfl rfl d_Ev_combine_57 (by decide) (fun c31 => ?_) (fun c31 => ?_)
      · replace hs := oq_pos c31 hs
        refine jr_aload_n ok 0 d_Ev_combine_182 rfl rfl ?_
        refine jr_get (v := .ref (g 18)) ok 20 f_Ev_11 rfl rfl d_Ev_combine_183 ?_
        refine jr_aload_n ok 0 d_Ev_combine_186 rfl rfl ?_
        refine jr_get (v := .int (ii S30.ev_height)) ok 20 f_Ev_49 rfl rfl d_Ev_combine_187 ?_
        refine jr_iconst ok d_Ev_combine_190 ?_
        refine jr_isub ok d_Ev_combine_191 ?_
        refine jr_aload ok 4 d_Ev_combine_192 rfl ?_
        refine jr_aload_n ok 2 d_Ev_combine_194 rfl rfl ?_
        refine jr_fact (φ := v4 ≠ v2 → g (19 + v4) ≠ g (19 + v2)) (fun h hl => grd_ne hl _ _ hv4 hv2) (fun hne32 => ?_)
        by_cases c32 : v4 = v2
        · replace hs := oq_pos c32 hs
          refine jr_acmp_ne 202 ok d_Ev_combine_195 (by decide) (fun e => absurd (congrArg (fun z => g (19 + z)) c32) e) (fun _ => ?_)
          refine jr_aload_n ok 3 d_Ev_combine_198 rfl rfl ?_
          refine jr_goto 203 ok d_Ev_combine_199 (by decide) ?_
          exact jr_lv [0, 4] rfl (B_203 v4 v3 (S30.ev_height - 1) S30 hv4 hv3 hs)
        · replace hs := oq_neg c32 hs
          refine jr_acmp_ne 202 ok d_Ev_combine_195 (by decide) (fun _ => ?_) (fun e => absurd e (hne32 c32))
          refine jr_aload_n ok 2 d_Ev_combine_202 rfl rfl ?_
          exact jr_lv [0, 4] rfl (B_203 v4 v2 (S30.ev_height - 1) S30 hv4 hv2 hs)
      · replace hs := oq_neg c31 hs
        refine jr_iconst ok d_Ev_combine_60 ?_
        refine jr_istore [(6, .int (ii 0)), (0, .ref (g 17)), (1, .int (ii v1)), (2, .ref (g (19 + v2))), (3, .ref (g (19 + v3))), (4, .ref (g (19 + v4))), (5, .int (ii v5))] ok d_Ev_combine_61 (by rw [hN]; decide) rfl ?_
        exact jr_lv [1, 2, 3, 4, 5, 6, 0] rfl (B_63 fU v1 v2 v3 v4 v5 0 S30 hv2 hv3 hv4 hs)
  have B_45 : ∀ (v1 : Int) (v2 : Nat) (v3 : Nat) (t0 : Nat) (S : WS), v2 < 19 → v3 < 19 → t0 < 19 → q_Ev_combine_45 c v1 v2 v3 t0 S = some (r, S9) → jw X 0 0 (wtL D g A c S) [(0, .ref (g 17)), (1, .int (ii v1)), (2, .ref (g (19 + v2))), (3, .ref (g (19 + v3)))] 45 [.ref (g (19 + t0))] := by
    intro v1 v2 v3 t0 S hv2 hv3 ht0 hs
    rw [q_Ev_combine_45] at hs
    refine jr_astore [(4, .ref (g (19 + t0))), (0, .ref (g 17)), (1, .int (ii v1)), (2, .ref (g (19 + v2))), (3, .ref (g (19 + v3)))] ok d_Ev_combine_45 (by rw [hN]; decide) rfl ?_
    refine jr_iconst ok d_Ev_combine_47 ?_
    refine jr_istore [(5, .int (ii 0)), (4, .ref (g (19 + t0))), (0, .ref (g 17)), (1, .int (ii v1)), (2, .ref (g (19 + v2))), (3, .ref (g (19 + v3)))] ok d_Ev_combine_48 (by rw [hN]; decide) rfl ?_
    exact jr_lv [2, 3, 4, 5, 1, 0] rfl (B_50 fU v1 v2 v3 t0 0 S hv2 hv3 ht0 hs)
  show jw X 0 0 (wtL D g A c S) [(0, .ref (g 17)), (1, .int (ii v1))] 0 []
  rw [s_Ev_combine] at hs
  refine jr_aload_n ok 0 d_Ev_combine_0 rfl rfl ?_
  refine jr_get (v := .int (ii S.ev_height)) ok 20 f_Ev_49 rfl rfl d_Ev_combine_1 ?_
  refine jr_iconst ok d_Ev_combine_4 ?_
  refine jr_wicmp_ge 9 ok rfl (show w32 2 = 2 by decide) d_Ev_combine_5 (by decide) (fun c52 => ?_) (fun c52 => ?_)
  · replace hs := oq_pos c52 hs
    refine jr_aload_n ok 0 d_Ev_combine_9 rfl rfl ?_
    refine jr_get (v := .ref (g 18)) ok 20 f_Ev_11 rfl rfl d_Ev_combine_10 ?_
    refine jr_aload_n ok 0 d_Ev_combine_13 rfl rfl ?_
    refine jr_get (v := .int (ii S.ev_height)) ok 20 f_Ev_49 rfl rfl d_Ev_combine_14 ?_
    refine jr_iconst ok d_Ev_combine_17 ?_
    refine jr_isub ok d_Ev_combine_18 ?_
    obtain ⟨hb53, hs⟩ := oq_if hs
    obtain ⟨hb54, hs⟩ := oq_if hs
    refine jr_aald ok 21 rfl rfl rfl hb53.1 hb53.2 d_Ev_combine_19 ?_
    show jw X 0 0 (wtL D g A c S) [(0, .ref (g 17)), (1, .int (ii v1))] 20 [.ref (g (19 + (S.ev_stack (S.ev_height - 2))))]
    refine jr_astore_n [(2, .ref (g (19 + (S.ev_stack (S.ev_height - 2))))), (0, .ref (g 17)), (1, .int (ii v1))] ok d_Ev_combine_20 rfl (by rw [hN]; decide) rfl ?_
    refine jr_aload_n ok 1 d_Ev_combine_21 rfl rfl ?_
    refine jr_get (v := .ref (g 18)) ok 20 f_Ev_11 rfl rfl d_Ev_combine_22 ?_
    refine jr_aload_n ok 1 d_Ev_combine_25 rfl rfl ?_
    refine jr_get (v := .int (ii S.ev_height)) ok 20 f_Ev_49 rfl rfl d_Ev_combine_26 ?_
    refine jr_iconst ok d_Ev_combine_29 ?_
    refine jr_isub ok d_Ev_combine_30 ?_
    obtain ⟨hb55, hs⟩ := oq_if hs
    obtain ⟨hb56, hs⟩ := oq_if hs
    refine jr_aald ok 21 rfl rfl rfl hb55.1 hb55.2 d_Ev_combine_31 ?_
    show jw X 0 0 (wtL D g A c S) [(2, .ref (g (19 + (S.ev_stack (S.ev_height - 2))))), (0, .ref (g 17)), (1, .int (ii v1))] 32 [.ref (g (19 + (S.ev_stack (S.ev_height - 1))))]
    refine jr_astore_n [(3, .ref (g (19 + (S.ev_stack (S.ev_height - 1))))), (2, .ref (g (19 + (S.ev_stack (S.ev_height - 2))))), (0, .ref (g 17)), (1, .int (ii v1))] ok d_Ev_combine_32 rfl (by rw [hN]; decide) rfl ?_
    refine jr_aload_n ok 0 d_Ev_combine_33 rfl rfl ?_
    obtain ⟨r57, S57, hc57, hs⟩ := mb2_some hs
    refine jq_cV1 ok hR m_Ev_121 (r_Gd_isNamed (jx_l X) D g A c S (S.ev_stack (S.ev_height - 1)) r57 S57 hb56 hc57) (sg_atp (F := grdW D g A c S) 23 rfl hb56 0 rfl) rfl rfl rfl (Nat.le_of_ble_eq_true rfl) ⟨Nat.le_of_ble_eq_true rfl, Nat.le_of_ble_eq_true rfl⟩ ⟨Nat.zero_le _, Nat.zero_le _⟩ d_Ev_combine_34 ?_
    show jw X 0 0 (wtL D g A c S57) [(3, .ref (g (19 + (S.ev_stack (S.ev_height - 1))))), (2, .ref (g (19 + (S.ev_stack (S.ev_height - 2))))), (0, .ref (g 17)), (1, .int (ii v1))] 37 [.int (ii r57)]
    refine jr_wif_eq 44 ok rfl d_Ev_combine_37 (by decide) (fun c58 => ?_) (fun c58 => ?_)
    · replace hs := oq_pos c58 hs
      refine jr_aload_n ok 1 d_Ev_combine_44 rfl rfl ?_
      exact jr_lv [2, 3, 1, 0] rfl (B_45 v1 (S.ev_stack (S.ev_height - 2)) (S.ev_stack (S.ev_height - 1)) (S.ev_stack (S.ev_height - 2)) S57 hb54 hb56 hb54 hs)
    · replace hs := oq_neg c58 hs
      refine jr_aload_n ok 0 d_Ev_combine_40 rfl rfl ?_
      refine jr_goto 45 ok d_Ev_combine_41 (by decide) ?_
      exact jr_lv [2, 3, 1, 0] rfl (B_45 v1 (S.ev_stack (S.ev_height - 2)) (S.ev_stack (S.ev_height - 1)) (S.ev_stack (S.ev_height - 1)) S57 hb54 hb56 hb56 hs)
  · replace hs := oq_neg c52 hs
    exact jm_vret (Lf := wtL D g A c) ok fin hs d_Ev_combine_8

def q_Ev_addPoint_145 (c : CW) (t0 : Int64) (t1 : Int) (t2 : Nat) (S : WS) : Option (Unit × WS) := mb2 (s_Gd_put c S t2 t1 t0) (fun r50 S50 => some ((), S50))

def q_Ev_addPoint_120 (c : CW) (t0 : Int64) (t1 : Int) (t2 : Nat) (S : WS) : Option (Unit × WS) := mb2 (s_Gd_put c S t2 t1 t0) (fun r49 S49 => some ((), S49))

def q_Ev_addPoint_29 (c : CW) (v1 : Int) (v2 : Nat) (v3 : Int) (v4 : Nat) (v5 : Int) (v6 : Int64) (v8 : Int64) (t0 : Int) (S : WS) : Option (Unit × WS) := if w32 v1 = 1 then mb2 (s_Gd_put c S v2 v3 (v8 + v6)) (fun r29 S29 => some ((), S29)) else if w32 v1 = 2 then mb2 (s_Gd_put c S v2 v3 (v8 + (ll 1))) (fun r31 S31 => some ((), S31)) else if w32 v1 = 3 then if w32 t0 = 0 then q_Ev_addPoint_120 c (ll (min v8.toInt v6.toInt)) v3 v2 S else q_Ev_addPoint_120 c v6 v3 v2 S else if w32 v1 = 4 then if w32 t0 = 0 then q_Ev_addPoint_145 c (ll (max v8.toInt v6.toInt)) v3 v2 S else q_Ev_addPoint_145 c v6 v3 v2 S else if w32 v1 = 5 then mb2 (s_Pt_timeAt c S v4 v5) (fun r37 S37 => mb2 (s_Ev_addMoment c S37 v1 v2 v3 r37 v6) (fun r38 S38 => some ((), S38))) else if w32 v1 = 6 then mb2 (s_Pt_timeAt c S v4 v5) (fun r40 S40 => mb2 (s_Ev_addMoment c S40 v1 v2 v3 r40 v6) (fun r41 S41 => some ((), S41))) else if w32 v1 = 7 then if w32 v5 ≤ 0 then some ((), S) else mb2 (s_Pt_valueAt c S v4 (v5 - 1)) (fun r44 S44 => mb1 (s_Ev_grownBy r44 v6) (fun r45 => mb2 (s_Gd_put c S44 v2 v3 (v8 + r45)) (fun r46 S46 => some ((), S46)))) else mb2 (s_Pt_timeAt c S v4 v5) (fun r47 S47 => mb2 (s_Ev_addMoment c S47 v1 v2 v3 r47 v6) (fun r48 S48 => some ((), S48)))

def s_Ev_addPoint (c : CW) (S : WS) (v1 : Int) (v2 : Nat) (v3 : Int) (v4 : Nat) (v5 : Int) : Option (Unit × WS) := mb2 (s_Pt_valueAt c S v4 v5) (fun r51 S51 => mb2 (s_Gd_numberAt c S51 v2 v3) (fun r52 S52 => mb2 (s_Gd_has c S52 v2 v3) (fun r53 S53 => if w32 r53 = 0 then q_Ev_addPoint_29 c v1 v2 v3 v4 v5 r51 r52 1 S53 else q_Ev_addPoint_29 c v1 v2 v3 v4 v5 r51 r52 0 S53)))
set_option maxHeartbeats 4000000 in
set_option maxRecDepth 100000 in
theorem r_Ev_addPoint (l : Launch) (D : jd_T) (g : Nat → Nat) (A : AW) (c : CW) (S : WS) (v1 : Int) (v2 : Nat) (v3 : Int) (v4 : Nat) (v5 : Int) (r : Unit) (S9 : WS) (hv2 : v2 < 19) (hv4 : v4 < c.N) (hs : s_Ev_addPoint c S v1 v2 v3 v4 v5 = some (r, S9)) : jc_C l D y_Ev_addPoint b_Ev_addPoint 11 none { frames := 2, cells := 0, slots := 0, locals := 51 } [.ref (g 17), .int (ii v1), .ref (g (19 + v2)), .int (ii v3), .ref (A.us v4 5), .int (ii v5)] (wtL D g A c S) (fun _ : Unit => (.returned (none), True, wtL D g A c S9)) := by
  refine jc_of rfl (Nat.le_of_ble_eq_true rfl) ?_
  intro X hl hR hN ok hnm fin
  subst hl
  have B_145 : ∀ (t0 : Int64) (t1 : Int) (t2 : Nat) (S : WS), t2 < 19 → q_Ev_addPoint_145 c t0 t1 t2 S = some (r, S9) → jw X 0 0 (wtL D g A c S) [] 145 [.long t0, .int (ii t1), .ref (g (19 + t2))] := by
    intro t0 t1 t2 S ht2 hs
    rw [q_Ev_addPoint_145] at hs
    obtain ⟨r50, S50, hc50, hs⟩ := mb2_some hs
    refine jq_cV0 ok hR m_Ev_107 (r_Gd_put (jx_l X) D g A c S t2 t1 t0 r50 S50 ht2 hc50) (sg_atp (F := grdW D g A c S) 23 rfl ht2 0 rfl) rfl rfl rfl (Nat.le_of_ble_eq_true rfl) ⟨Nat.le_of_ble_eq_true rfl, Nat.le_of_ble_eq_true rfl⟩ ⟨Nat.zero_le _, Nat.zero_le _⟩ d_Ev_addPoint_145 ?_
    show jw X 0 0 (wtL D g A c S50) [] 148 []
    refine jr_goto 197 ok d_Ev_addPoint_148 (by decide) ?_
    exact jm_vret (Lf := wtL D g A c) ok fin hs d_Ev_addPoint_197
  have B_120 : ∀ (t0 : Int64) (t1 : Int) (t2 : Nat) (S : WS), t2 < 19 → q_Ev_addPoint_120 c t0 t1 t2 S = some (r, S9) → jw X 0 0 (wtL D g A c S) [] 120 [.long t0, .int (ii t1), .ref (g (19 + t2))] := by
    intro t0 t1 t2 S ht2 hs
    rw [q_Ev_addPoint_120] at hs
    obtain ⟨r49, S49, hc49, hs⟩ := mb2_some hs
    refine jq_cV0 ok hR m_Ev_107 (r_Gd_put (jx_l X) D g A c S t2 t1 t0 r49 S49 ht2 hc49) (sg_atp (F := grdW D g A c S) 23 rfl ht2 0 rfl) rfl rfl rfl (Nat.le_of_ble_eq_true rfl) ⟨Nat.le_of_ble_eq_true rfl, Nat.le_of_ble_eq_true rfl⟩ ⟨Nat.zero_le _, Nat.zero_le _⟩ d_Ev_addPoint_120 ?_
    show jw X 0 0 (wtL D g A c S49) [] 123 []
    refine jr_goto 197 ok d_Ev_addPoint_123 (by decide) ?_
    exact jm_vret (Lf := wtL D g A c) ok fin hs d_Ev_addPoint_197
  have B_29 : ∀ (v1 : Int) (v2 : Nat) (v3 : Int) (v4 : Nat) (v5 : Int) (v6 : Int64) (v8 : Int64) (t0 : Int) (S : WS), v2 < 19 → v4 < c.N → q_Ev_addPoint_29 c v1 v2 v3 v4 v5 v6 v8 t0 S = some (r, S9) → jw X 0 0 (wtL D g A c S) [(0, .ref (g 17)), (1, .int (ii v1)), (2, .ref (g (19 + v2))), (3, .int (ii v3)), (4, .ref (A.us v4 5)), (5, .int (ii v5)), (6, .long v6), (8, .long v8)] 29 [.int (ii t0)] := by
    intro v1 v2 v3 v4 v5 v6 v8 t0 S hv2 hv4 hs
    rw [q_Ev_addPoint_29] at hs
    refine jr_istore [(10, .int (ii t0)), (0, .ref (g 17)), (1, .int (ii v1)), (2, .ref (g (19 + v2))), (3, .int (ii v3)), (4, .ref (A.us v4 5)), (5, .int (ii v5)), (6, .long v6), (8, .long v8)] ok d_Ev_addPoint_29 (by rw [hN]; decide) rfl ?_
    refine jr_iload_n ok 2 d_Ev_addPoint_31 rfl rfl ?_
    by_cases c28 : w32 v1 = 1
    · replace hs := oq_pos c28 hs
      refine jr_wtab (off := 44) 76 c28 ok d_Ev_addPoint_32 (by decide) (by decide) rfl (by decide) ?_
      refine jr_aload_n ok 3 d_Ev_addPoint_76 rfl rfl ?_
      refine jr_iload_n ok 4 d_Ev_addPoint_77 rfl rfl ?_
      refine jr_lload ok 8 d_Ev_addPoint_78 rfl ?_
      refine jr_lload ok 7 d_Ev_addPoint_80 rfl ?_
      refine jr_laddx ok d_Ev_addPoint_82 ?_
      obtain ⟨r29, S29, hc29, hs⟩ := mb2_some hs
      refine jq_cV0 ok hR m_Ev_107 (r_Gd_put (jx_l X) D g A c S v2 v3 (v8 + v6) r29 S29 hv2 hc29) (sg_atp (F := grdW D g A c S) 23 rfl hv2 0 rfl) rfl rfl rfl (Nat.le_of_ble_eq_true rfl) ⟨Nat.le_of_ble_eq_true rfl, Nat.le_of_ble_eq_true rfl⟩ ⟨Nat.zero_le _, Nat.zero_le _⟩ d_Ev_addPoint_83 ?_
      show jw X 0 0 (wtL D g A c S29) [(10, .int (ii t0)), (0, .ref (g 17)), (1, .int (ii v1)), (2, .ref (g (19 + v2))), (3, .int (ii v3)), (4, .ref (A.us v4 5)), (5, .int (ii v5)), (6, .long v6), (8, .long v8)] 86 []
      refine jr_goto 197 ok d_Ev_addPoint_86 (by decide) ?_
      exact jm_vret (Lf := wtL D g A c) ok fin hs d_Ev_addPoint_197
    · replace hs := oq_neg c28 hs
      by_cases c30 : w32 v1 = 2
      · replace hs := oq_pos c30 hs
        refine jr_wtab (off := 57) 89 c30 ok d_Ev_addPoint_32 (by decide) (by decide) rfl (by decide) ?_
        refine jr_aload_n ok 3 d_Ev_addPoint_89 rfl rfl ?_
        refine jr_iload_n ok 4 d_Ev_addPoint_90 rfl rfl ?_
        refine jr_lload ok 8 d_Ev_addPoint_91 rfl ?_
        refine jr_lconst (z := 1) ok d_Ev_addPoint_93 (by decide +kernel) ?_
        refine jr_laddx ok d_Ev_addPoint_94 ?_
        obtain ⟨r31, S31, hc31, hs⟩ := mb2_some hs
        refine jq_cV0 ok hR m_Ev_107 (r_Gd_put (jx_l X) D g A c S v2 v3 (v8 + (ll 1)) r31 S31 hv2 hc31) (sg_atp (F := grdW D g A c S) 23 rfl hv2 0 rfl) rfl rfl rfl (Nat.le_of_ble_eq_true rfl) ⟨Nat.le_of_ble_eq_true rfl, Nat.le_of_ble_eq_true rfl⟩ ⟨Nat.zero_le _, Nat.zero_le _⟩ d_Ev_addPoint_95 ?_
        show jw X 0 0 (wtL D g A c S31) [(10, .int (ii t0)), (0, .ref (g 17)), (1, .int (ii v1)), (2, .ref (g (19 + v2))), (3, .int (ii v3)), (4, .ref (A.us v4 5)), (5, .int (ii v5)), (6, .long v6), (8, .long v8)] 98 []
        refine jr_goto 197 ok d_Ev_addPoint_98 (by decide) ?_
        exact jm_vret (Lf := wtL D g A c) ok fin hs d_Ev_addPoint_197
      · replace hs := oq_neg c30 hs
        by_cases c32 : w32 v1 = 3
        · replace hs := oq_pos c32 hs
          refine jr_wtab (off := 69) 101 c32 ok d_Ev_addPoint_32 (by decide) (by decide) rfl (by decide) ?_
          refine jr_aload_n ok 3 d_Ev_addPoint_101 rfl rfl ?_
          refine jr_iload_n ok 4 d_Ev_addPoint_102 rfl rfl ?_
          refine jr_iload ok 0 d_Ev_addPoint_103 rfl ?_
          refine jr_wif_eq 113 ok rfl d_Ev_addPoint_105 (by decide) (fun c33 => ?_) (fun c33 => ?_)
          · replace hs := oq_pos c33 hs
            refine jr_lload ok 8 d_Ev_addPoint_113 rfl ?_
            refine jr_lload ok 7 d_Ev_addPoint_115 rfl ?_
            refine jr_xlmin ok w_1196 w_700 w_17 w_701 rfl rfl hR ⟨Nat.le_of_ble_eq_true rfl, Nat.le_of_ble_eq_true rfl⟩ ⟨Nat.zero_le _, Nat.zero_le _⟩ (Nat.le_of_ble_eq_true rfl) d_Ev_addPoint_117 ?_
            exact jr_lv [] rfl (B_120 (ll (min v8.toInt v6.toInt)) v3 v2 S hv2 hs)
          · replace hs := oq_neg c33 hs
            refine jr_lload ok 7 d_Ev_addPoint_108 rfl ?_
            refine jr_goto 120 ok d_Ev_addPoint_110 (by decide) ?_
            exact jr_lv [] rfl (B_120 v6 v3 v2 S hv2 hs)
        · replace hs := oq_neg c32 hs
          by_cases c34 : w32 v1 = 4
          · replace hs := oq_pos c34 hs
            refine jr_wtab (off := 94) 126 c34 ok d_Ev_addPoint_32 (by decide) (by decide) rfl (by decide) ?_
            refine jr_aload_n ok 3 d_Ev_addPoint_126 rfl rfl ?_
            refine jr_iload_n ok 4 d_Ev_addPoint_127 rfl rfl ?_
            refine jr_iload ok 0 d_Ev_addPoint_128 rfl ?_
            refine jr_wif_eq 138 ok rfl d_Ev_addPoint_130 (by decide) (fun c35 => ?_) (fun c35 => ?_)
            · replace hs := oq_pos c35 hs
              refine jr_lload ok 8 d_Ev_addPoint_138 rfl ?_
              refine jr_lload ok 7 d_Ev_addPoint_140 rfl ?_
              refine jr_xlmax ok w_1197 w_1198 w_17 w_1199 rfl rfl hR ⟨Nat.le_of_ble_eq_true rfl, Nat.le_of_ble_eq_true rfl⟩ ⟨Nat.zero_le _, Nat.zero_le _⟩ (Nat.le_of_ble_eq_true rfl) d_Ev_addPoint_142 ?_
              exact jr_lv [] rfl (B_145 (ll (max v8.toInt v6.toInt)) v3 v2 S hv2 hs)
            · replace hs := oq_neg c35 hs
              refine jr_lload ok 7 d_Ev_addPoint_133 rfl ?_
              refine jr_goto 145 ok d_Ev_addPoint_135 (by decide) ?_
              exact jr_lv [] rfl (B_145 v6 v3 v2 S hv2 hs)
          · replace hs := oq_neg c34 hs
            by_cases c36 : w32 v1 = 5
            · replace hs := oq_pos c36 hs
              refine jr_wtab (off := 149) 181 c36 ok d_Ev_addPoint_32 (by decide) (by decide) rfl (by decide) ?_
              refine jr_aload_n ok 1 d_Ev_addPoint_181 rfl rfl ?_
              refine jr_iload_n ok 2 d_Ev_addPoint_182 rfl rfl ?_
              refine jr_aload_n ok 3 d_Ev_addPoint_183 rfl rfl ?_
              refine jr_iload_n ok 4 d_Ev_addPoint_184 rfl rfl ?_
              refine jr_aload ok 5 d_Ev_addPoint_185 rfl ?_
              refine jr_iload ok 6 d_Ev_addPoint_187 rfl ?_
              obtain ⟨r37, S37, hc37, hs⟩ := mb2_some hs
              refine jq_cV1 ok hR m_Ev_202 (r_Pt_timeAt (jx_l X) D g A c S v4 v5 r37 S37 hv4 hc37) (sg_atp (F := serW D A c S) 5 rfl hv4 5 rfl) rfl rfl rfl (Nat.le_of_ble_eq_true rfl) ⟨Nat.le_of_ble_eq_true rfl, Nat.le_of_ble_eq_true rfl⟩ ⟨Nat.zero_le _, Nat.zero_le _⟩ d_Ev_addPoint_189 ?_
              show jw X 0 0 (wtL D g A c S37) [(10, .int (ii t0)), (0, .ref (g 17)), (1, .int (ii v1)), (2, .ref (g (19 + v2))), (3, .int (ii v3)), (4, .ref (A.us v4 5)), (5, .int (ii v5)), (6, .long v6), (8, .long v8)] 192 [.long r37, .int (ii v3), .ref (g (19 + v2)), .int (ii v1), .ref (g 17)]
              refine jr_lload ok 7 d_Ev_addPoint_192 rfl ?_
              obtain ⟨r38, S38, hc38, hs⟩ := mb2_some hs
              refine jq_cV0 ok hR m_Ev_220 (r_Ev_addMoment (jx_l X) D g A c S37 v1 v2 v3 r37 v6 r38 S38 hv2 hc38) (sg_atk 20 rfl) rfl rfl rfl (Nat.le_of_ble_eq_true rfl) ⟨Nat.le_of_ble_eq_true rfl, Nat.le_of_ble_eq_true rfl⟩ ⟨Nat.zero_le _, Nat.zero_le _⟩ d_Ev_addPoint_194 ?_
              show jw X 0 0 (wtL D g A c S38) [(10, .int (ii t0)), (0, .ref (g 17)), (1, .int (ii v1)), (2, .ref (g (19 + v2))), (3, .int (ii v3)), (4, .ref (A.us v4 5)), (5, .int (ii v5)), (6, .long v6), (8, .long v8)] 197 []
              exact jm_vret (Lf := wtL D g A c) ok fin hs d_Ev_addPoint_197
            · replace hs := oq_neg c36 hs
              by_cases c39 : w32 v1 = 6
              · replace hs := oq_pos c39 hs
                refine jr_wtab (off := 149) 181 c39 ok d_Ev_addPoint_32 (by decide) (by decide) rfl (by decide) ?_
                refine jr_aload_n ok 1 d_Ev_addPoint_181 rfl rfl ?_
                refine jr_iload_n ok 2 d_Ev_addPoint_182 rfl rfl ?_
                refine jr_aload_n ok 3 d_Ev_addPoint_183 rfl rfl ?_
                refine jr_iload_n ok 4 d_Ev_addPoint_184 rfl rfl ?_
                refine jr_aload ok 5 d_Ev_addPoint_185 rfl ?_
                refine jr_iload ok 6 d_Ev_addPoint_187 rfl ?_
                obtain ⟨r40, S40, hc40, hs⟩ := mb2_some hs
                refine jq_cV1 ok hR m_Ev_202 (r_Pt_timeAt (jx_l X) D g A c S v4 v5 r40 S40 hv4 hc40) (sg_atp (F := serW D A c S) 5 rfl hv4 5 rfl) rfl rfl rfl (Nat.le_of_ble_eq_true rfl) ⟨Nat.le_of_ble_eq_true rfl, Nat.le_of_ble_eq_true rfl⟩ ⟨Nat.zero_le _, Nat.zero_le _⟩ d_Ev_addPoint_189 ?_
                show jw X 0 0 (wtL D g A c S40) [(10, .int (ii t0)), (0, .ref (g 17)), (1, .int (ii v1)), (2, .ref (g (19 + v2))), (3, .int (ii v3)), (4, .ref (A.us v4 5)), (5, .int (ii v5)), (6, .long v6), (8, .long v8)] 192 [.long r40, .int (ii v3), .ref (g (19 + v2)), .int (ii v1), .ref (g 17)]
                refine jr_lload ok 7 d_Ev_addPoint_192 rfl ?_
                obtain ⟨r41, S41, hc41, hs⟩ := mb2_some hs
                refine jq_cV0 ok hR m_Ev_220 (r_Ev_addMoment (jx_l X) D g A c S40 v1 v2 v3 r40 v6 r41 S41 hv2 hc41) (sg_atk 20 rfl) rfl rfl rfl (Nat.le_of_ble_eq_true rfl) ⟨Nat.le_of_ble_eq_true rfl, Nat.le_of_ble_eq_true rfl⟩ ⟨Nat.zero_le _, Nat.zero_le _⟩ d_Ev_addPoint_194 ?_
                show jw X 0 0 (wtL D g A c S41) [(10, .int (ii t0)), (0, .ref (g 17)), (1, .int (ii v1)), (2, .ref (g (19 + v2))), (3, .int (ii v3)), (4, .ref (A.us v4 5)), (5, .int (ii v5)), (6, .long v6), (8, .long v8)] 197 []
                exact jm_vret (Lf := wtL D g A c) ok fin hs d_Ev_addPoint_197
              · replace hs := oq_neg c39 hs
                by_cases c42 : w32 v1 = 7
                · replace hs := oq_pos c42 hs
                  refine jr_wtab (off := 119) 151 c42 ok d_Ev_addPoint_32 (by decide) (by decide) rfl (by decide) ?_
                  refine jr_iload ok 6 d_Ev_addPoint_151 rfl ?_
                  refine jr_wif_le 197 ok rfl d_Ev_addPoint_153 (by decide) (fun c43 => ?_) (fun c43 => ?_)
                  · replace hs := oq_pos c43 hs
                    exact jm_vret (Lf := wtL D g A c) ok fin hs d_Ev_addPoint_197
                  · replace hs := oq_neg c43 hs
                    refine jr_aload_n ok 3 d_Ev_addPoint_156 rfl rfl ?_
                    refine jr_iload_n ok 4 d_Ev_addPoint_157 rfl rfl ?_
                    refine jr_lload ok 8 d_Ev_addPoint_158 rfl ?_
                    refine jr_aload ok 5 d_Ev_addPoint_160 rfl ?_
                    refine jr_iload ok 6 d_Ev_addPoint_162 rfl ?_
                    refine jr_iconst ok d_Ev_addPoint_164 ?_
                    refine jr_isub ok d_Ev_addPoint_165 ?_
                    obtain ⟨r44, S44, hc44, hs⟩ := mb2_some hs
                    refine jq_cV1 ok hR m_Ev_209 (r_Pt_valueAt (jx_l X) D g A c S v4 (v5 - 1) r44 S44 hv4 hc44) (sg_atp (F := serW D A c S) 5 rfl hv4 5 rfl) rfl rfl rfl (Nat.le_of_ble_eq_true rfl) ⟨Nat.le_of_ble_eq_true rfl, Nat.le_of_ble_eq_true rfl⟩ ⟨Nat.zero_le _, Nat.zero_le _⟩ d_Ev_addPoint_166 ?_
                    show jw X 0 0 (wtL D g A c S44) [(10, .int (ii t0)), (0, .ref (g 17)), (1, .int (ii v1)), (2, .ref (g (19 + v2))), (3, .int (ii v3)), (4, .ref (A.us v4 5)), (5, .int (ii v5)), (6, .long v6), (8, .long v8)] 169 [.long r44, .long v8, .int (ii v3), .ref (g (19 + v2))]
                    refine jr_lload ok 7 d_Ev_addPoint_169 rfl ?_
                    obtain ⟨r45, hc45, hs⟩ := mb1_some hs
                    refine jr_mS1 ok hR m_Ev_217 (r_Ev_grownBy (jx_l X) D r44 v6 r45 hc45) rfl rfl (Nat.le_of_ble_eq_true rfl) ⟨Nat.le_of_ble_eq_true rfl, Nat.le_of_ble_eq_true rfl⟩ ⟨Nat.zero_le _, Nat.zero_le _⟩ d_Ev_addPoint_171 ?_
                    show jw X 0 0 (wtL D g A c S44) [(10, .int (ii t0)), (0, .ref (g 17)), (1, .int (ii v1)), (2, .ref (g (19 + v2))), (3, .int (ii v3)), (4, .ref (A.us v4 5)), (5, .int (ii v5)), (6, .long v6), (8, .long v8)] 174 [.long r45, .long v8, .int (ii v3), .ref (g (19 + v2))]
                    refine jr_laddx ok d_Ev_addPoint_174 ?_
                    obtain ⟨r46, S46, hc46, hs⟩ := mb2_some hs
                    refine jq_cV0 ok hR m_Ev_107 (r_Gd_put (jx_l X) D g A c S44 v2 v3 (v8 + r45) r46 S46 hv2 hc46) (sg_atp (F := grdW D g A c S44) 23 rfl hv2 0 rfl) rfl rfl rfl (Nat.le_of_ble_eq_true rfl) ⟨Nat.le_of_ble_eq_true rfl, Nat.le_of_ble_eq_true rfl⟩ ⟨Nat.zero_le _, Nat.zero_le _⟩ d_Ev_addPoint_175 ?_
                    show jw X 0 0 (wtL D g A c S46) [(10, .int (ii t0)), (0, .ref (g 17)), (1, .int (ii v1)), (2, .ref (g (19 + v2))), (3, .int (ii v3)), (4, .ref (A.us v4 5)), (5, .int (ii v5)), (6, .long v6), (8, .long v8)] 178 []
                    refine jr_goto 197 ok d_Ev_addPoint_178 (by decide) ?_
                    exact jm_vret (Lf := wtL D g A c) ok fin hs d_Ev_addPoint_197
                · replace hs := oq_neg c42 hs
                  refine jr_wtabD 181 rfl ok d_Ev_addPoint_32 (by omega) (by decide) ?_
                  refine jr_aload_n ok 1 d_Ev_addPoint_181 rfl rfl ?_
                  refine jr_iload_n ok 2 d_Ev_addPoint_182 rfl rfl ?_
                  refine jr_aload_n ok 3 d_Ev_addPoint_183 rfl rfl ?_
                  refine jr_iload_n ok 4 d_Ev_addPoint_184 rfl rfl ?_
                  refine jr_aload ok 5 d_Ev_addPoint_185 rfl ?_
                  refine jr_iload ok 6 d_Ev_addPoint_187 rfl ?_
                  obtain ⟨r47, S47, hc47, hs⟩ := mb2_some hs
                  refine jq_cV1 ok hR m_Ev_202 (r_Pt_timeAt (jx_l X) D g A c S v4 v5 r47 S47 hv4 hc47) (sg_atp (F := serW D A c S) 5 rfl hv4 5 rfl) rfl rfl rfl (Nat.le_of_ble_eq_true rfl) ⟨Nat.le_of_ble_eq_true rfl, Nat.le_of_ble_eq_true rfl⟩ ⟨Nat.zero_le _, Nat.zero_le _⟩ d_Ev_addPoint_189 ?_
                  show jw X 0 0 (wtL D g A c S47) [(10, .int (ii t0)), (0, .ref (g 17)), (1, .int (ii v1)), (2, .ref (g (19 + v2))), (3, .int (ii v3)), (4, .ref (A.us v4 5)), (5, .int (ii v5)), (6, .long v6), (8, .long v8)] 192 [.long r47, .int (ii v3), .ref (g (19 + v2)), .int (ii v1), .ref (g 17)]
                  refine jr_lload ok 7 d_Ev_addPoint_192 rfl ?_
                  obtain ⟨r48, S48, hc48, hs⟩ := mb2_some hs
                  refine jq_cV0 ok hR m_Ev_220 (r_Ev_addMoment (jx_l X) D g A c S47 v1 v2 v3 r47 v6 r48 S48 hv2 hc48) (sg_atk 20 rfl) rfl rfl rfl (Nat.le_of_ble_eq_true rfl) ⟨Nat.le_of_ble_eq_true rfl, Nat.le_of_ble_eq_true rfl⟩ ⟨Nat.zero_le _, Nat.zero_le _⟩ d_Ev_addPoint_194 ?_
                  show jw X 0 0 (wtL D g A c S48) [(10, .int (ii t0)), (0, .ref (g 17)), (1, .int (ii v1)), (2, .ref (g (19 + v2))), (3, .int (ii v3)), (4, .ref (A.us v4 5)), (5, .int (ii v5)), (6, .long v6), (8, .long v8)] 197 []
                  exact jm_vret (Lf := wtL D g A c) ok fin hs d_Ev_addPoint_197
  show jw X 0 0 (wtL D g A c S) [(0, .ref (g 17)), (1, .int (ii v1)), (2, .ref (g (19 + v2))), (3, .int (ii v3)), (4, .ref (A.us v4 5)), (5, .int (ii v5))] 0 []
  rw [s_Ev_addPoint] at hs
  refine jr_aload ok 4 d_Ev_addPoint_0 rfl ?_
  refine jr_iload ok 5 d_Ev_addPoint_2 rfl ?_
  obtain ⟨r51, S51, hc51, hs⟩ := mb2_some hs
  refine jq_cV1 ok hR m_Ev_209 (r_Pt_valueAt (jx_l X) D g A c S v4 v5 r51 S51 hv4 hc51) (sg_atp (F := serW D A c S) 5 rfl hv4 5 rfl) rfl rfl rfl (Nat.le_of_ble_eq_true rfl) ⟨Nat.le_of_ble_eq_true rfl, Nat.le_of_ble_eq_true rfl⟩ ⟨Nat.zero_le _, Nat.zero_le _⟩ d_Ev_addPoint_4 ?_
  show jw X 0 0 (wtL D g A c S51) [(0, .ref (g 17)), (1, .int (ii v1)), (2, .ref (g (19 + v2))), (3, .int (ii v3)), (4, .ref (A.us v4 5)), (5, .int (ii v5))] 7 [.long r51]
  refine jr_lstore [(6, .long r51), (0, .ref (g 17)), (1, .int (ii v1)), (2, .ref (g (19 + v2))), (3, .int (ii v3)), (4, .ref (A.us v4 5)), (5, .int (ii v5))] ok d_Ev_addPoint_7 (by rw [hN]; decide) rfl ?_
  refine jr_aload_n ok 3 d_Ev_addPoint_9 rfl rfl ?_
  refine jr_iload_n ok 4 d_Ev_addPoint_10 rfl rfl ?_
  obtain ⟨r52, S52, hc52, hs⟩ := mb2_some hs
  refine jq_cV1 ok hR m_Ev_118 (r_Gd_numberAt (jx_l X) D g A c S51 v2 v3 r52 S52 hv2 hc52) (sg_atp (F := grdW D g A c S51) 23 rfl hv2 0 rfl) rfl rfl rfl (Nat.le_of_ble_eq_true rfl) ⟨Nat.le_of_ble_eq_true rfl, Nat.le_of_ble_eq_true rfl⟩ ⟨Nat.zero_le _, Nat.zero_le _⟩ d_Ev_addPoint_11 ?_
  show jw X 0 0 (wtL D g A c S52) [(6, .long r51), (0, .ref (g 17)), (1, .int (ii v1)), (2, .ref (g (19 + v2))), (3, .int (ii v3)), (4, .ref (A.us v4 5)), (5, .int (ii v5))] 14 [.long r52]
  refine jr_lstore [(8, .long r52), (6, .long r51), (0, .ref (g 17)), (1, .int (ii v1)), (2, .ref (g (19 + v2))), (3, .int (ii v3)), (4, .ref (A.us v4 5)), (5, .int (ii v5))] ok d_Ev_addPoint_14 (by rw [hN]; decide) rfl ?_
  refine jr_aload_n ok 4 d_Ev_addPoint_16 rfl rfl ?_
  refine jr_iload_n ok 5 d_Ev_addPoint_17 rfl rfl ?_
  obtain ⟨r53, S53, hc53, hs⟩ := mb2_some hs
  refine jq_cV1 ok hR m_Ev_114 (r_Gd_has (jx_l X) D g A c S52 v2 v3 r53 S53 hv2 hc53) (sg_atp (F := grdW D g A c S52) 23 rfl hv2 0 rfl) rfl rfl rfl (Nat.le_of_ble_eq_true rfl) ⟨Nat.le_of_ble_eq_true rfl, Nat.le_of_ble_eq_true rfl⟩ ⟨Nat.zero_le _, Nat.zero_le _⟩ d_Ev_addPoint_18 ?_
  show jw X 0 0 (wtL D g A c S53) [(8, .long r52), (6, .long r51), (0, .ref (g 17)), (1, .int (ii v1)), (2, .ref (g (19 + v2))), (3, .int (ii v3)), (4, .ref (A.us v4 5)), (5, .int (ii v5))] 21 [.int (ii r53)]
  refine jr_wif_ne 28 ok rfl d_Ev_addPoint_21 (by decide) (fun c54 => ?_) (fun c54 => ?_)
  · replace hs := oq_neg c54 hs
    refine jr_iconst ok d_Ev_addPoint_28 ?_
    exact jr_lv [2, 3, 4, 5, 6, 7, 1, 0] rfl (B_29 v1 v2 v3 v4 v5 r51 r52 0 S53 hv2 hv4 hs)
  · replace hs := oq_pos c54 hs
    refine jr_iconst ok d_Ev_addPoint_24 ?_
    refine jr_goto 29 ok d_Ev_addPoint_25 (by decide) ?_
    exact jr_lv [2, 3, 4, 5, 6, 7, 1, 0] rfl (B_29 v1 v2 v3 v4 v5 r51 r52 1 S53 hv2 hv4 hs)

def s_Pg_matchOf (c : CW) (S : WS) (v1 : Int) (v2 : Int) : Option (Int × WS) := mb2 (s_Pg_namesOf c S v1) (fun r2 S2 => some (((v1 + 4) + (2 * r2)) + (5 * v2), S2))
set_option maxHeartbeats 4000000 in
set_option maxRecDepth 100000 in
theorem r_Pg_matchOf (l : Launch) (D : jd_T) (g : Nat → Nat) (A : AW) (c : CW) (S : WS) (v1 : Int) (v2 : Int) (r : Int) (S9 : WS)  (hs : s_Pg_matchOf c S v1 v2 = some (r, S9)) : jc_C l D y_Pg_matchOf b_Pg_matchOf 3 (some .int) { frames := 2, cells := 0, slots := 0, locals := 42 } [.ref (g 9), .int (ii v1), .int (ii v2)] (wtL D g A c S) (fun _ : Unit => (.returned (some (.int (ii r))), True, wtL D g A c S9)) := by
  refine jc_of rfl (Nat.le_of_ble_eq_true rfl) ?_
  intro X hl hR hN ok hnm fin
  subst hl
  show jw X 0 0 (wtL D g A c S) [(0, .ref (g 9)), (1, .int (ii v1)), (2, .int (ii v2))] 0 []
  rw [s_Pg_matchOf] at hs
  refine jr_iload_n ok 1 d_Pg_matchOf_0 rfl rfl ?_
  refine jr_iconst ok d_Pg_matchOf_1 ?_
  refine jr_iadd ok d_Pg_matchOf_2 ?_
  refine jr_iconst ok d_Pg_matchOf_3 ?_
  refine jr_aload_n ok 0 d_Pg_matchOf_4 rfl rfl ?_
  refine jr_iload_n ok 1 d_Pg_matchOf_5 rfl rfl ?_
  obtain ⟨r2, S2, hc2, hs⟩ := mb2_some hs
  refine jq_cV1 ok hR m_Pg_38 (r_Pg_namesOf (jx_l X) D g A c S v1 r2 S2  hc2) (sg_atk 11 rfl) rfl rfl rfl (Nat.le_of_ble_eq_true rfl) ⟨Nat.le_of_ble_eq_true rfl, Nat.le_of_ble_eq_true rfl⟩ ⟨Nat.zero_le _, Nat.zero_le _⟩ d_Pg_matchOf_6 ?_
  show jw X 0 0 (wtL D g A c S2) [(0, .ref (g 9)), (1, .int (ii v1)), (2, .int (ii v2))] 9 [.int (ii r2), .int (ii 2), .int (ii (v1 + 4))]
  refine jr_imul ok d_Pg_matchOf_9 ?_
  refine jr_iadd ok d_Pg_matchOf_10 ?_
  refine jr_iconst ok d_Pg_matchOf_11 ?_
  refine jr_iload_n ok 2 d_Pg_matchOf_12 rfl rfl ?_
  refine jr_imul ok d_Pg_matchOf_13 ?_
  refine jr_iadd ok d_Pg_matchOf_14 ?_
  exact jm_iret (Lf := wtL D g A c) ok fin hs d_Pg_matchOf_15

def q_LR_placeFor_14 (c : CW) : Nat → Int → Int → Int → WS → Option (Int × WS)
  | 0, _, _, _, _ => none
  | n + 1, v2, v3, v4, S => if w32 S.lr_labels ≤ w32 v4 then some (S.lr_labels, S) else if (0 : Int) ≤ v4 ∧ v4 < (6 : Int) then if (0 : Int) ≤ v4 ∧ v4 < (6 : Int) then mb2 (s_Tp_compare c S v2 v3 (S.lr_nameAt v4) (S.lr_signAt v4)) (fun r11 S11 => if w32 r11 = 0 then some (-1, S11) else if 0 ≤ w32 r11 then (q_LR_placeFor_14 c n) v2 v3 (v4 + 1) S11 else some (v4, S11)) else none else none

def s_LR_placeFor (c : CW) (S : WS) (v2 : Int) (v3 : Int) : Option (Int × WS) := if w32 S.lr_labels < 6 then q_LR_placeFor_14 c fU v2 v3 0 S else some (-1, S)
set_option maxHeartbeats 4000000 in
set_option maxRecDepth 100000 in
theorem r_LR_placeFor (l : Launch) (D : jd_T) (g : Nat → Nat) (A : AW) (c : CW) (S : WS) (v2 : Int) (v3 : Int) (r : Int) (S9 : WS)  (hs : s_LR_placeFor c S v2 v3 = some (r, S9)) : jc_C l D y_LR_placeFor b_LR_placeFor 6 (some .int) { frames := 2, cells := 0, slots := 0, locals := 49 } [.ref (g 4), .ref (g 1), .int (ii v2), .int (ii v3)] (wtL D g A c S) (fun _ : Unit => (.returned (some (.int (ii r))), True, wtL D g A c S9)) := by
  refine jc_of rfl (Nat.le_of_ble_eq_true rfl) ?_
  intro X hl hR hN ok hnm fin
  subst hl
  have B_14 : ∀ (n14 : Nat), ∀ (v2 : Int) (v3 : Int) (v4 : Int) (S : WS), q_LR_placeFor_14 c n14 v2 v3 v4 S = some (r, S9) → jw X 0 0 (wtL D g A c S) [(0, .ref (g 4)), (1, .ref (g 1)), (2, .int (ii v2)), (3, .int (ii v3)), (4, .int (ii v4))] 14 [] := by
    intro n14
    induction n14 with
    | zero =>
      intro v2 v3 v4 S hs
      rw [q_LR_placeFor_14] at hs; cases hs
    | succ n14 ih14 =>
      intro v2 v3 v4 S hs
      rw [q_LR_placeFor_14] at hs
      refine jr_iload ok 4 d_LR_placeFor_14 rfl ?_
      refine jr_aload_n ok 0 d_LR_placeFor_16 rfl rfl ?_
      refine jr_get (v := .int (ii S.lr_labels)) ok 6 f_LR_35 rfl rfl d_LR_placeFor_17 ?_
      refine jr_wicmp_ge 66 ok rfl rfl d_LR_placeFor_20 (by decide) (fun c8 => ?_) (fun c8 => ?_)
      · replace hs := oq_pos c8 hs
        refine jr_aload_n ok 0 d_LR_placeFor_66 rfl rfl ?_
        refine jr_get (v := .int (ii S.lr_labels)) ok 6 f_LR_35 rfl rfl d_LR_placeFor_67 ?_
        exact jm_iret (Lf := wtL D g A c) ok fin hs d_LR_placeFor_70
      · replace hs := oq_neg c8 hs
        refine jr_aload_n ok 1 d_LR_placeFor_23 rfl rfl ?_
        refine jr_iload_n ok 2 d_LR_placeFor_24 rfl rfl ?_
        refine jr_iload_n ok 3 d_LR_placeFor_25 rfl rfl ?_
        refine jr_aload_n ok 0 d_LR_placeFor_26 rfl rfl ?_
        refine jr_get (v := .ref (g 5)) ok 6 f_LR_9 rfl rfl d_LR_placeFor_27 ?_
        refine jr_iload ok 4 d_LR_placeFor_30 rfl ?_
        obtain ⟨hb9, hs⟩ := oq_if hs
        refine jr_iald ok 7 rfl rfl hb9.1 hb9.2 d_LR_placeFor_32 ?_
        refine jr_aload_n ok 0 d_LR_placeFor_33 rfl rfl ?_
        refine jr_get (v := .ref (g 6)) ok 6 f_LR_15 rfl rfl d_LR_placeFor_34 ?_
        refine jr_iload ok 4 d_LR_placeFor_37 rfl ?_
        obtain ⟨hb10, hs⟩ := oq_if hs
        refine jr_iald ok 8 rfl rfl hb10.1 hb10.2 d_LR_placeFor_39 ?_
        obtain ⟨r11, S11, hc11, hs⟩ := mb2_some hs
        refine jq_cV1 ok hR m_LR_75 (r_Tp_compare (jx_l X) D g A c S v2 v3 (S.lr_nameAt v4) (S.lr_signAt v4) r11 S11  hc11) (sg_atk 1 rfl) rfl rfl rfl (Nat.le_of_ble_eq_true rfl) ⟨Nat.le_of_ble_eq_true rfl, Nat.le_of_ble_eq_true rfl⟩ ⟨Nat.zero_le _, Nat.zero_le _⟩ d_LR_placeFor_40 ?_
        show jw X 0 0 (wtL D g A c S11) [(0, .ref (g 4)), (1, .ref (g 1)), (2, .int (ii v2)), (3, .int (ii v3)), (4, .int (ii v4))] 43 [.int (ii r11)]
        refine jr_istore [(5, .int (ii r11)), (0, .ref (g 4)), (1, .ref (g 1)), (2, .int (ii v2)), (3, .int (ii v3)), (4, .int (ii v4))] ok d_LR_placeFor_43 (by rw [hN]; decide) rfl ?_
        refine jr_iload ok 0 d_LR_placeFor_45 rfl ?_
        refine jr_wif_ne 52 ok rfl d_LR_placeFor_47 (by decide) (fun c12 => ?_) (fun c12 => ?_)
        · replace hs := oq_neg c12 hs
          refine jr_iload ok 0 d_LR_placeFor_52 rfl ?_
          refine jr_wif_ge 60 ok rfl d_LR_placeFor_54 (by decide) (fun c13 => ?_) (fun c13 => ?_)
          · replace hs := oq_pos c13 hs
            refine jr_iinc [(4, .int (ii (v4 + 1))), (5, .int (ii r11)), (0, .ref (g 4)), (1, .ref (g 1)), (2, .int (ii v2)), (3, .int (ii v3))] 5 ok d_LR_placeFor_60 rfl (by rw [hN]; decide) rfl ?_
            refine jr_goto 14 ok d_LR_placeFor_63 (by decide) ?_
            exact jr_lv [2, 3, 4, 5, 0] rfl (ih14 v2 v3 (v4 + 1) S11 hs)
          · replace hs := oq_neg c13 hs
            refine jr_iload ok 5 d_LR_placeFor_57 rfl ?_
            exact jm_iret (Lf := wtL D g A c) ok fin hs d_LR_placeFor_59
        · replace hs := oq_pos c12 hs
          refine jr_iconst ok d_LR_placeFor_50 ?_
          exact jm_iret (Lf := wtL D g A c) ok fin hs d_LR_placeFor_51
  show jw X 0 0 (wtL D g A c S) [(0, .ref (g 4)), (1, .ref (g 1)), (2, .int (ii v2)), (3, .int (ii v3))] 0 []
  rw [s_LR_placeFor] at hs
  refine jr_aload_n ok 0 d_LR_placeFor_0 rfl rfl ?_
  refine jr_get (v := .int (ii S.lr_labels)) ok 6 f_LR_35 rfl rfl d_LR_placeFor_1 ?_
  refine jr_bipush ok d_LR_placeFor_4 (by decide +kernel) ?_
  refine jr_wicmp_lt 11 ok rfl (show w32 6 = 6 by decide) d_LR_placeFor_6 (by decide) (fun c14 => ?_) (fun c14 => ?_)
  · replace hs := oq_pos c14 hs
    refine jr_iconst ok d_LR_placeFor_11 ?_
    refine jr_istore [(4, .int (ii 0)), (0, .ref (g 4)), (1, .ref (g 1)), (2, .int (ii v2)), (3, .int (ii v3))] ok d_LR_placeFor_12 (by rw [hN]; decide) rfl ?_
    exact jr_lv [1, 2, 3, 4, 0] rfl (B_14 fU v2 v3 0 S hs)
  · replace hs := oq_neg c14 hs
    refine jr_iconst ok d_LR_placeFor_9 ?_
    exact jm_iret (Lf := wtL D g A c) ok fin hs d_LR_placeFor_10

def q_Lx_advance_51 (c : CW)  (S : WS) : Option (Unit × WS) := mb2 (s_Tp_byteAt c (WS.w_lx_behind S S.lx_at) S.lx_at) (fun r21 S21 => if w32 r21 = (-1) then some ((), WS.w_lx_kind S21 301) else mb1 (s_Lx_isDigit r21) (fun r23 => if w32 r23 = 0 then mb1 (s_Lx_isNameByte r21) (fun r25 => if w32 r25 = 0 then if w32 r21 = 34 then mb2 (s_Lx_readQuoted c S21 ) (fun r30 S30 => some ((), S30)) else mb2 (s_Tp_byteAt c S21 (S21.lx_at + 1)) (fun r28 S28 => mb2 (s_Lx_readSign c S28 r21 r28) (fun r29 S29 => some ((), S29))) else mb2 (s_Lx_readName c S21 ) (fun r31 S31 => some ((), S31))) else mb2 (s_Lx_readNumber c S21 ) (fun r32 S32 => some ((), S32))))

def q_Lx_advance_8 (c : CW) : Nat → WS → Option (Unit × WS)
  | 0, _ => none
  | n + 1, S => mb2 (s_Tp_size c S ) (fun r17 S17 => if w32 r17 ≤ w32 S.lx_at then q_Lx_advance_51 c S17 else mb2 (s_Tp_byteAt c S17 S17.lx_at) (fun r19 S19 => if w32 r19 = 32 then (q_Lx_advance_8 c n) (WS.w_lx_at S19 (S19.lx_at + 1)) else q_Lx_advance_51 c S19))

def s_Lx_advance (c : CW) (S : WS)  : Option (Unit × WS) := q_Lx_advance_8 c fU (WS.w_lx_at S S.lx_behind)
set_option maxHeartbeats 4000000 in
set_option maxRecDepth 100000 in
theorem r_Lx_advance (l : Launch) (D : jd_T) (g : Nat → Nat) (A : AW) (c : CW) (S : WS)  (r : Unit) (S9 : WS)  (hs : s_Lx_advance c S  = some (r, S9)) : jc_C l D y_Lx_advance b_Lx_advance 2 none { frames := 2, cells := 0, slots := 0, locals := 44 } [.ref (g 11)] (wtL D g A c S) (fun _ : Unit => (.returned (none), True, wtL D g A c S9)) := by
  refine jc_of rfl (Nat.le_of_ble_eq_true rfl) ?_
  intro X hl hR hN ok hnm fin
  subst hl
  have B_51 : ∀ (S : WS), q_Lx_advance_51 c S = some (r, S9) → jw X 0 0 (wtL D g A c S) [(0, .ref (g 11))] 51 [] := by
    intro S hs
    rw [q_Lx_advance_51] at hs
    refine jr_aload_n ok 0 d_Lx_advance_51 rfl rfl ?_
    refine jr_aload_n ok 0 d_Lx_advance_52 rfl rfl ?_
    refine jr_get (v := .int (ii S.lx_at)) ok 14 f_Lx_19 rfl rfl d_Lx_advance_53 ?_
    refine jr_put (wtL D g A c (WS.w_lx_behind S S.lx_at)) ok 14 f_Lx_22 rfl rfl rfl (Nat.le_of_ble_eq_true rfl) rfl d_Lx_advance_56 ?_
    refine jr_aload_n ok 0 d_Lx_advance_59 rfl rfl ?_
    refine jr_get (v := .ref (g 1)) ok 14 f_Lx_9 rfl rfl d_Lx_advance_60 ?_
    refine jr_aload_n ok 0 d_Lx_advance_63 rfl rfl ?_
    refine jr_get (v := .int (ii S.lx_at)) ok 14 f_Lx_19 rfl rfl d_Lx_advance_64 ?_
    obtain ⟨r21, S21, hc21, hs⟩ := mb2_some hs
    refine jq_cV1 ok hR m_Lx_38 (r_Tp_byteAt (jx_l X) D g A c (WS.w_lx_behind S S.lx_at) S.lx_at r21 S21  hc21) (sg_atk 1 rfl) rfl rfl rfl (Nat.le_of_ble_eq_true rfl) ⟨Nat.le_of_ble_eq_true rfl, Nat.le_of_ble_eq_true rfl⟩ ⟨Nat.zero_le _, Nat.zero_le _⟩ d_Lx_advance_67 ?_
    show jw X 0 0 (wtL D g A c S21) [(0, .ref (g 11))] 70 [.int (ii r21)]
    refine jr_istore_n [(1, .int (ii r21)), (0, .ref (g 11))] ok d_Lx_advance_70 rfl (by rw [hN]; decide) rfl ?_
    refine jr_iload_n ok 0 d_Lx_advance_71 rfl rfl ?_
    refine jr_iconst ok d_Lx_advance_72 ?_
    refine jr_wicmp_ne 86 ok rfl (show w32 (-1) = (-1) by decide) d_Lx_advance_73 (by decide) (fun c22 => ?_) (fun c22 => ?_)
    · replace hs := oq_neg c22 hs
      refine jr_iload_n ok 0 d_Lx_advance_86 rfl rfl ?_
      obtain ⟨r23, hc23, hs⟩ := mb1_some hs
      refine jr_mS1 ok hR m_Lx_42 (r_Lx_isDigit (jx_l X) D r21 r23 hc23) rfl rfl (Nat.le_of_ble_eq_true rfl) ⟨Nat.le_of_ble_eq_true rfl, Nat.le_of_ble_eq_true rfl⟩ ⟨Nat.zero_le _, Nat.zero_le _⟩ d_Lx_advance_87 ?_
      show jw X 0 0 (wtL D g A c S21) [(1, .int (ii r21)), (0, .ref (g 11))] 90 [.int (ii r23)]
      refine jr_wif_eq 100 ok rfl d_Lx_advance_90 (by decide) (fun c24 => ?_) (fun c24 => ?_)
      · replace hs := oq_pos c24 hs
        refine jr_iload_n ok 0 d_Lx_advance_100 rfl rfl ?_
        obtain ⟨r25, hc25, hs⟩ := mb1_some hs
        refine jr_mS1 ok hR m_Lx_49 (r_Lx_isNameByte (jx_l X) D r21 r25 hc25) rfl rfl (Nat.le_of_ble_eq_true rfl) ⟨Nat.le_of_ble_eq_true rfl, Nat.le_of_ble_eq_true rfl⟩ ⟨Nat.zero_le _, Nat.zero_le _⟩ d_Lx_advance_101 ?_
        show jw X 0 0 (wtL D g A c S21) [(1, .int (ii r21)), (0, .ref (g 11))] 104 [.int (ii r25)]
        refine jr_wif_eq 114 ok rfl d_Lx_advance_104 (by decide) (fun c26 => ?_) (fun c26 => ?_)
        · replace hs := oq_pos c26 hs
          refine jr_iload_n ok 0 d_Lx_advance_114 rfl rfl ?_
          refine jr_bipush ok d_Lx_advance_115 (by decide +kernel) ?_
          refine jr_wicmp_ne 127 ok rfl (show w32 34 = 34 by decide) d_Lx_advance_117 (by decide) (fun c27 => ?_) (fun c27 => ?_)
          · replace hs := oq_neg c27 hs
            refine jr_aload_n ok 1 d_Lx_advance_127 rfl rfl ?_
            refine jr_iload_n ok 0 d_Lx_advance_128 rfl rfl ?_
            refine jr_aload_n ok 1 d_Lx_advance_129 rfl rfl ?_
            refine jr_get (v := .ref (g 1)) ok 14 f_Lx_9 rfl rfl d_Lx_advance_130 ?_
            refine jr_aload_n ok 1 d_Lx_advance_133 rfl rfl ?_
            refine jr_get (v := .int (ii S21.lx_at)) ok 14 f_Lx_19 rfl rfl d_Lx_advance_134 ?_
            refine jr_iconst ok d_Lx_advance_137 ?_
            refine jr_iadd ok d_Lx_advance_138 ?_
            obtain ⟨r28, S28, hc28, hs⟩ := mb2_some hs
            refine jq_cV1 ok hR m_Lx_38 (r_Tp_byteAt (jx_l X) D g A c S21 (S21.lx_at + 1) r28 S28  hc28) (sg_atk 1 rfl) rfl rfl rfl (Nat.le_of_ble_eq_true rfl) ⟨Nat.le_of_ble_eq_true rfl, Nat.le_of_ble_eq_true rfl⟩ ⟨Nat.zero_le _, Nat.zero_le _⟩ d_Lx_advance_139 ?_
            show jw X 0 0 (wtL D g A c S28) [(1, .int (ii r21)), (0, .ref (g 11))] 142 [.int (ii r28), .int (ii r21), .ref (g 11)]
            obtain ⟨r29, S29, hc29, hs⟩ := mb2_some hs
            refine jq_cV0 ok hR m_Lx_58 (r_Lx_readSign (jx_l X) D g A c S28 r21 r28 r29 S29  hc29) (sg_atk 14 rfl) rfl rfl rfl (Nat.le_of_ble_eq_true rfl) ⟨Nat.le_of_ble_eq_true rfl, Nat.le_of_ble_eq_true rfl⟩ ⟨Nat.zero_le _, Nat.zero_le _⟩ d_Lx_advance_142 ?_
            show jw X 0 0 (wtL D g A c S29) [(1, .int (ii r21)), (0, .ref (g 11))] 145 []
            exact jm_vret (Lf := wtL D g A c) ok fin hs d_Lx_advance_145
          · replace hs := oq_pos c27 hs
            refine jr_aload_n ok 1 d_Lx_advance_120 rfl rfl ?_
            obtain ⟨r30, S30, hc30, hs⟩ := mb2_some hs
            refine jq_cV0 ok hR m_Lx_55 (r_Lx_readQuoted (jx_l X) D g A c S21  r30 S30  hc30) (sg_atk 14 rfl) rfl rfl rfl (Nat.le_of_ble_eq_true rfl) ⟨Nat.le_of_ble_eq_true rfl, Nat.le_of_ble_eq_true rfl⟩ ⟨Nat.zero_le _, Nat.zero_le _⟩ d_Lx_advance_121 ?_
            show jw X 0 0 (wtL D g A c S30) [(1, .int (ii r21)), (0, .ref (g 11))] 124 []
            refine jr_goto 145 ok d_Lx_advance_124 (by decide) ?_
            exact jm_vret (Lf := wtL D g A c) ok fin hs d_Lx_advance_145
        · replace hs := oq_neg c26 hs
          refine jr_aload_n ok 1 d_Lx_advance_107 rfl rfl ?_
          obtain ⟨r31, S31, hc31, hs⟩ := mb2_some hs
          refine jq_cV0 ok hR m_Lx_52 (r_Lx_readName (jx_l X) D g A c S21  r31 S31  hc31) (sg_atk 14 rfl) rfl rfl rfl (Nat.le_of_ble_eq_true rfl) ⟨Nat.le_of_ble_eq_true rfl, Nat.le_of_ble_eq_true rfl⟩ ⟨Nat.zero_le _, Nat.zero_le _⟩ d_Lx_advance_108 ?_
          show jw X 0 0 (wtL D g A c S31) [(1, .int (ii r21)), (0, .ref (g 11))] 111 []
          refine jr_goto 145 ok d_Lx_advance_111 (by decide) ?_
          exact jm_vret (Lf := wtL D g A c) ok fin hs d_Lx_advance_145
      · replace hs := oq_neg c24 hs
        refine jr_aload_n ok 1 d_Lx_advance_93 rfl rfl ?_
        obtain ⟨r32, S32, hc32, hs⟩ := mb2_some hs
        refine jq_cV0 ok hR m_Lx_46 (r_Lx_readNumber (jx_l X) D g A c S21  r32 S32  hc32) (sg_atk 14 rfl) rfl rfl rfl (Nat.le_of_ble_eq_true rfl) ⟨Nat.le_of_ble_eq_true rfl, Nat.le_of_ble_eq_true rfl⟩ ⟨Nat.zero_le _, Nat.zero_le _⟩ d_Lx_advance_94 ?_
        show jw X 0 0 (wtL D g A c S32) [(1, .int (ii r21)), (0, .ref (g 11))] 97 []
        refine jr_goto 145 ok d_Lx_advance_97 (by decide) ?_
        exact jm_vret (Lf := wtL D g A c) ok fin hs d_Lx_advance_145
    · replace hs := oq_pos c22 hs
      refine jr_aload_n ok 1 d_Lx_advance_76 rfl rfl ?_
      refine jr_sipush ok d_Lx_advance_77 (by decide +kernel) ?_
      refine jr_put (wtL D g A c (WS.w_lx_kind S21 301)) ok 14 f_Lx_15 rfl rfl rfl (Nat.le_of_ble_eq_true rfl) rfl d_Lx_advance_80 ?_
      refine jr_goto 145 ok d_Lx_advance_83 (by decide) ?_
      exact jm_vret (Lf := wtL D g A c) ok fin hs d_Lx_advance_145
  have B_8 : ∀ (n8 : Nat), ∀ (S : WS), q_Lx_advance_8 c n8 S = some (r, S9) → jw X 0 0 (wtL D g A c S) [(0, .ref (g 11))] 8 [] := by
    intro n8
    induction n8 with
    | zero =>
      intro S hs
      rw [q_Lx_advance_8] at hs; cases hs
    | succ n8 ih8 =>
      intro S hs
      rw [q_Lx_advance_8] at hs
      refine jr_aload_n ok 0 d_Lx_advance_8 rfl rfl ?_
      refine jr_get (v := .int (ii S.lx_at)) ok 14 f_Lx_19 rfl rfl d_Lx_advance_9 ?_
      refine jr_aload_n ok 0 d_Lx_advance_12 rfl rfl ?_
      refine jr_get (v := .ref (g 1)) ok 14 f_Lx_9 rfl rfl d_Lx_advance_13 ?_
      obtain ⟨r17, S17, hc17, hs⟩ := mb2_some hs
      refine jq_cV1 ok hR m_Lx_32 (r_Tp_size (jx_l X) D g A c S  r17 S17  hc17) (sg_atk 1 rfl) rfl rfl rfl (Nat.le_of_ble_eq_true rfl) ⟨Nat.le_of_ble_eq_true rfl, Nat.le_of_ble_eq_true rfl⟩ ⟨Nat.zero_le _, Nat.zero_le _⟩ d_Lx_advance_16 ?_
      show jw X 0 0 (wtL D g A c S17) [(0, .ref (g 11))] 19 [.int (ii r17), .int (ii S.lx_at)]
      refine jr_wicmp_ge 51 ok rfl rfl d_Lx_advance_19 (by decide) (fun c18 => ?_) (fun c18 => ?_)
      · replace hs := oq_pos c18 hs
        exact jr_lv [0] rfl (B_51 S17 hs)
      · replace hs := oq_neg c18 hs
        refine jr_aload_n ok 0 d_Lx_advance_22 rfl rfl ?_
        refine jr_get (v := .ref (g 1)) ok 14 f_Lx_9 rfl rfl d_Lx_advance_23 ?_
        refine jr_aload_n ok 0 d_Lx_advance_26 rfl rfl ?_
        refine jr_get (v := .int (ii S17.lx_at)) ok 14 f_Lx_19 rfl rfl d_Lx_advance_27 ?_
        obtain ⟨r19, S19, hc19, hs⟩ := mb2_some hs
        refine jq_cV1 ok hR m_Lx_38 (r_Tp_byteAt (jx_l X) D g A c S17 S17.lx_at r19 S19  hc19) (sg_atk 1 rfl) rfl rfl rfl (Nat.le_of_ble_eq_true rfl) ⟨Nat.le_of_ble_eq_true rfl, Nat.le_of_ble_eq_true rfl⟩ ⟨Nat.zero_le _, Nat.zero_le _⟩ d_Lx_advance_30 ?_
        show jw X 0 0 (wtL D g A c S19) [(0, .ref (g 11))] 33 [.int (ii r19)]
        refine jr_bipush ok d_Lx_advance_33 (by decide +kernel) ?_
        refine jr_wicmp_ne 51 ok rfl (show w32 32 = 32 by decide) d_Lx_advance_35 (by decide) (fun c20 => ?_) (fun c20 => ?_)
        · replace hs := oq_neg c20 hs
          exact jr_lv [0] rfl (B_51 S19 hs)
        · replace hs := oq_pos c20 hs
          refine jr_aload_n ok 0 d_Lx_advance_38 rfl rfl ?_
          refine jr_dup rfl ok d_Lx_advance_39 ?_
          refine jr_get (v := .int (ii S19.lx_at)) ok 14 f_Lx_19 rfl rfl d_Lx_advance_40 ?_
          refine jr_iconst ok d_Lx_advance_43 ?_
          refine jr_iadd ok d_Lx_advance_44 ?_
          refine jr_put (wtL D g A c (WS.w_lx_at S19 (S19.lx_at + 1))) ok 14 f_Lx_19 rfl rfl rfl (Nat.le_of_ble_eq_true rfl) rfl d_Lx_advance_45 ?_
          refine jr_goto 8 ok d_Lx_advance_48 (by decide) ?_
          exact jr_lv [0] rfl (ih8 (WS.w_lx_at S19 (S19.lx_at + 1)) hs)
  show jw X 0 0 (wtL D g A c S) [(0, .ref (g 11))] 0 []
  rw [s_Lx_advance] at hs
  refine jr_aload_n ok 0 d_Lx_advance_0 rfl rfl ?_
  refine jr_aload_n ok 0 d_Lx_advance_1 rfl rfl ?_
  refine jr_get (v := .int (ii S.lx_behind)) ok 14 f_Lx_22 rfl rfl d_Lx_advance_2 ?_
  refine jr_put (wtL D g A c (WS.w_lx_at S S.lx_behind)) ok 14 f_Lx_19 rfl rfl rfl (Nat.le_of_ble_eq_true rfl) rfl d_Lx_advance_5 ?_
  exact jr_lv [0] rfl (B_8 fU (WS.w_lx_at S S.lx_behind) hs)

def q_Ev_negate_71 (c : CW) (k23 : Nat → Int → WS → Option (Unit × WS)) (k33 : Nat → Int → Int → WS → Option (Unit × WS)) (v1 : Nat) (v2 : Int) (v3 : Int) (S : WS) : Option (Unit × WS) := k33 v1 v2 (v3 + 1) S

def q_Ev_negate_33 (c : CW) (k23 : Nat → Int → WS → Option (Unit × WS)) : Nat → Nat → Int → Int → WS → Option (Unit × WS)
  | 0, _, _, _, _ => none
  | n + 1, v1, v2, v3, S => if w32 S.ev_windows ≤ w32 v3 then k23 v1 (v2 + 1) S else mb2 (s_Gd_placeOf c S v1 v2 v3) (fun r15 S15 => mb2 (s_Gd_has c S15 v1 r15) (fun r16 S16 => if w32 r16 = 0 then q_Ev_negate_71 c k23 (q_Ev_negate_33 c k23 n) v1 v2 v3 S16 else mb2 (s_Gd_numberAt c S16 v1 r15) (fun r18 S18 => mb2 (s_Gd_put c S18 v1 r15 (-r18)) (fun r19 S19 => q_Ev_negate_71 c k23 (q_Ev_negate_33 c k23 n) v1 v2 v3 S19))))

def q_Ev_negate_23 (c : CW) : Nat → Nat → Int → WS → Option (Unit × WS)
  | 0, _, _, _ => none
  | n + 1, v1, v2, S => mb2 (s_Gd_lines c S v1) (fun r12 S12 => if w32 r12 ≤ w32 v2 then some ((), S12) else q_Ev_negate_33 c (q_Ev_negate_23 c n) fU v1 v2 0 S12)

def s_Ev_negate (c : CW) (S : WS)  : Option (Unit × WS) := if 1 ≤ w32 S.ev_height then if (0 : Int) ≤ (S.ev_height - 1) ∧ (S.ev_height - 1) < (19 : Int) then if S.ev_stack (S.ev_height - 1) < 19 then q_Ev_negate_23 c fU (S.ev_stack (S.ev_height - 1)) 0 S else none else none else some ((), S)
set_option maxHeartbeats 4000000 in
set_option maxRecDepth 100000 in
theorem r_Ev_negate (l : Launch) (D : jd_T) (g : Nat → Nat) (A : AW) (c : CW) (S : WS)  (r : Unit) (S9 : WS)  (hs : s_Ev_negate c S  = some (r, S9)) : jc_C l D y_Ev_negate b_Ev_negate 5 none { frames := 2, cells := 0, slots := 0, locals := 42 } [.ref (g 17)] (wtL D g A c S) (fun _ : Unit => (.returned (none), True, wtL D g A c S9)) := by
  refine jc_of rfl (Nat.le_of_ble_eq_true rfl) ?_
  intro X hl hR hN ok hnm fin
  subst hl
  have B_23 : ∀ (n23 : Nat), ∀ (v1 : Nat) (v2 : Int) (S : WS), v1 < 19 → q_Ev_negate_23 c n23 v1 v2 S = some (r, S9) → jw X 0 0 (wtL D g A c S) [(0, .ref (g 17)), (1, .ref (g (19 + v1))), (2, .int (ii v2))] 23 [] := by
    intro n23
    induction n23 with
    | zero =>
      intro v1 v2 S hv1 hs
      rw [q_Ev_negate_23] at hs; cases hs
    | succ n23 ih23 =>
      have B_33 : ∀ (n33 : Nat), ∀ (v1 : Nat) (v2 : Int) (v3 : Int) (S : WS), v1 < 19 → q_Ev_negate_33 c (q_Ev_negate_23 c n23) n33 v1 v2 v3 S = some (r, S9) → jw X 0 0 (wtL D g A c S) [(0, .ref (g 17)), (1, .ref (g (19 + v1))), (2, .int (ii v2)), (3, .int (ii v3))] 33 [] := by
        intro n33
        induction n33 with
        | zero =>
          intro v1 v2 v3 S hv1 hs
          rw [q_Ev_negate_33] at hs; cases hs
        | succ n33 ih33 =>
          have B_71 : ∀ (v1 : Nat) (v2 : Int) (v3 : Int) (S : WS), v1 < 19 → q_Ev_negate_71 c (q_Ev_negate_23 c n23) (q_Ev_negate_33 c (q_Ev_negate_23 c n23) n33) v1 v2 v3 S = some (r, S9) → jw X 0 0 (wtL D g A c S) [(0, .ref (g 17)), (1, .ref (g (19 + v1))), (2, .int (ii v2)), (3, .int (ii v3))] 71 [] := by
            intro v1 v2 v3 S hv1 hs
            rw [q_Ev_negate_71] at hs
            refine jr_iinc [(3, .int (ii (v3 + 1))), (0, .ref (g 17)), (1, .ref (g (19 + v1))), (2, .int (ii v2))] 3 ok d_Ev_negate_71 rfl (by rw [hN]; decide) rfl ?_
            refine jr_goto 33 ok d_Ev_negate_74 (by decide) ?_
            exact jr_lv [1, 2, 3, 0] rfl (ih33 v1 v2 (v3 + 1) S hv1 hs)
          intro v1 v2 v3 S hv1 hs
          rw [q_Ev_negate_33] at hs
          refine jr_iload_n ok 3 d_Ev_negate_33 rfl rfl ?_
          refine jr_aload_n ok 0 d_Ev_negate_34 rfl rfl ?_
          refine jr_get (v := .int (ii S.ev_windows)) ok 20 f_Ev_45 rfl rfl d_Ev_negate_35 ?_
          refine jr_wicmp_ge 77 ok rfl rfl d_Ev_negate_38 (by decide) (fun c14 => ?_) (fun c14 => ?_)
          · replace hs := oq_pos c14 hs
            refine jr_iinc [(2, .int (ii (v2 + 1))), (0, .ref (g 17)), (1, .ref (g (19 + v1))), (3, .int (ii v3))] 2 ok d_Ev_negate_77 rfl (by rw [hN]; decide) rfl ?_
            refine jr_goto 23 ok d_Ev_negate_80 (by decide) ?_
            exact jr_lv [1, 2, 0] rfl (ih23 v1 (v2 + 1) S hv1 hs)
          · replace hs := oq_neg c14 hs
            refine jr_aload_n ok 1 d_Ev_negate_41 rfl rfl ?_
            refine jr_iload_n ok 2 d_Ev_negate_42 rfl rfl ?_
            refine jr_iload_n ok 3 d_Ev_negate_43 rfl rfl ?_
            obtain ⟨r15, S15, hc15, hs⟩ := mb2_some hs
            refine jq_cV1 ok hR m_Ev_111 (r_Gd_placeOf (jx_l X) D g A c S v1 v2 v3 r15 S15 hv1 hc15) (sg_atp (F := grdW D g A c S) 23 rfl hv1 0 rfl) rfl rfl rfl (Nat.le_of_ble_eq_true rfl) ⟨Nat.le_of_ble_eq_true rfl, Nat.le_of_ble_eq_true rfl⟩ ⟨Nat.zero_le _, Nat.zero_le _⟩ d_Ev_negate_44 ?_
            show jw X 0 0 (wtL D g A c S15) [(0, .ref (g 17)), (1, .ref (g (19 + v1))), (2, .int (ii v2)), (3, .int (ii v3))] 47 [.int (ii r15)]
            refine jr_istore [(4, .int (ii r15)), (0, .ref (g 17)), (1, .ref (g (19 + v1))), (2, .int (ii v2)), (3, .int (ii v3))] ok d_Ev_negate_47 (by rw [hN]; decide) rfl ?_
            refine jr_aload_n ok 2 d_Ev_negate_49 rfl rfl ?_
            refine jr_iload ok 0 d_Ev_negate_50 rfl ?_
            obtain ⟨r16, S16, hc16, hs⟩ := mb2_some hs
            refine jq_cV1 ok hR m_Ev_114 (r_Gd_has (jx_l X) D g A c S15 v1 r15 r16 S16 hv1 hc16) (sg_atp (F := grdW D g A c S15) 23 rfl hv1 0 rfl) rfl rfl rfl (Nat.le_of_ble_eq_true rfl) ⟨Nat.le_of_ble_eq_true rfl, Nat.le_of_ble_eq_true rfl⟩ ⟨Nat.zero_le _, Nat.zero_le _⟩ d_Ev_negate_52 ?_
            show jw X 0 0 (wtL D g A c S16) [(4, .int (ii r15)), (0, .ref (g 17)), (1, .ref (g (19 + v1))), (2, .int (ii v2)), (3, .int (ii v3))] 55 [.int (ii r16)]
            refine jr_wif_eq 71 ok rfl d_Ev_negate_55 (by decide) (fun c17 => ?_) (fun c17 => ?_)
            · replace hs := oq_pos c17 hs
              exact jr_lv [1, 2, 3, 4] rfl (B_71 v1 v2 v3 S16 hv1 hs)
            · replace hs := oq_neg c17 hs
              refine jr_aload_n ok 2 d_Ev_negate_58 rfl rfl ?_
              refine jr_iload ok 0 d_Ev_negate_59 rfl ?_
              refine jr_aload_n ok 2 d_Ev_negate_61 rfl rfl ?_
              refine jr_iload ok 0 d_Ev_negate_62 rfl ?_
              obtain ⟨r18, S18, hc18, hs⟩ := mb2_some hs
              refine jq_cV1 ok hR m_Ev_118 (r_Gd_numberAt (jx_l X) D g A c S16 v1 r15 r18 S18 hv1 hc18) (sg_atp (F := grdW D g A c S16) 23 rfl hv1 0 rfl) rfl rfl rfl (Nat.le_of_ble_eq_true rfl) ⟨Nat.le_of_ble_eq_true rfl, Nat.le_of_ble_eq_true rfl⟩ ⟨Nat.zero_le _, Nat.zero_le _⟩ d_Ev_negate_64 ?_
              show jw X 0 0 (wtL D g A c S18) [(4, .int (ii r15)), (0, .ref (g 17)), (1, .ref (g (19 + v1))), (2, .int (ii v2)), (3, .int (ii v3))] 67 [.long r18, .int (ii r15), .ref (g (19 + v1))]
              refine jr_lnegx ok d_Ev_negate_67 ?_
              obtain ⟨r19, S19, hc19, hs⟩ := mb2_some hs
              refine jq_cV0 ok hR m_Ev_107 (r_Gd_put (jx_l X) D g A c S18 v1 r15 (-r18) r19 S19 hv1 hc19) (sg_atp (F := grdW D g A c S18) 23 rfl hv1 0 rfl) rfl rfl rfl (Nat.le_of_ble_eq_true rfl) ⟨Nat.le_of_ble_eq_true rfl, Nat.le_of_ble_eq_true rfl⟩ ⟨Nat.zero_le _, Nat.zero_le _⟩ d_Ev_negate_68 ?_
              show jw X 0 0 (wtL D g A c S19) [(4, .int (ii r15)), (0, .ref (g 17)), (1, .ref (g (19 + v1))), (2, .int (ii v2)), (3, .int (ii v3))] 71 []
              exact jr_lv [1, 2, 3, 4] rfl (B_71 v1 v2 v3 S19 hv1 hs)
      intro v1 v2 S hv1 hs
      rw [q_Ev_negate_23] at hs
      refine jr_iload_n ok 2 d_Ev_negate_23 rfl rfl ?_
      refine jr_aload_n ok 1 d_Ev_negate_24 rfl rfl ?_
      obtain ⟨r12, S12, hc12, hs⟩ := mb2_some hs
      refine jq_cV1 ok hR m_Ev_96 (r_Gd_lines (jx_l X) D g A c S v1 r12 S12 hv1 hc12) (sg_atp (F := grdW D g A c S) 23 rfl hv1 0 rfl) rfl rfl rfl (Nat.le_of_ble_eq_true rfl) ⟨Nat.le_of_ble_eq_true rfl, Nat.le_of_ble_eq_true rfl⟩ ⟨Nat.zero_le _, Nat.zero_le _⟩ d_Ev_negate_25 ?_
      show jw X 0 0 (wtL D g A c S12) [(0, .ref (g 17)), (1, .ref (g (19 + v1))), (2, .int (ii v2))] 28 [.int (ii r12), .int (ii v2)]
      refine jr_wicmp_ge 83 ok rfl rfl d_Ev_negate_28 (by decide) (fun c13 => ?_) (fun c13 => ?_)
      · replace hs := oq_pos c13 hs
        exact jm_vret (Lf := wtL D g A c) ok fin hs d_Ev_negate_83
      · replace hs := oq_neg c13 hs
        refine jr_iconst ok d_Ev_negate_31 ?_
        refine jr_istore_n [(3, .int (ii 0)), (0, .ref (g 17)), (1, .ref (g (19 + v1))), (2, .int (ii v2))] ok d_Ev_negate_32 rfl (by rw [hN]; decide) rfl ?_
        exact jr_lv [1, 2, 3, 0] rfl (B_33 fU v1 v2 0 S12 hv1 hs)
  show jw X 0 0 (wtL D g A c S) [(0, .ref (g 17))] 0 []
  rw [s_Ev_negate] at hs
  refine jr_aload_n ok 0 d_Ev_negate_0 rfl rfl ?_
  refine jr_get (v := .int (ii S.ev_height)) ok 20 f_Ev_49 rfl rfl d_Ev_negate_1 ?_
  refine jr_iconst ok d_Ev_negate_4 ?_
  refine jr_wicmp_ge 9 ok rfl (show w32 1 = 1 by decide) d_Ev_negate_5 (by decide) (fun c20 => ?_) (fun c20 => ?_)
  · replace hs := oq_pos c20 hs
    refine jr_aload_n ok 0 d_Ev_negate_9 rfl rfl ?_
    refine jr_get (v := .ref (g 18)) ok 20 f_Ev_11 rfl rfl d_Ev_negate_10 ?_
    refine jr_aload_n ok 0 d_Ev_negate_13 rfl rfl ?_
    refine jr_get (v := .int (ii S.ev_height)) ok 20 f_Ev_49 rfl rfl d_Ev_negate_14 ?_
    refine jr_iconst ok d_Ev_negate_17 ?_
    refine jr_isub ok d_Ev_negate_18 ?_
    obtain ⟨hb21, hs⟩ := oq_if hs
    obtain ⟨hb22, hs⟩ := oq_if hs
    refine jr_aald ok 21 rfl rfl rfl hb21.1 hb21.2 d_Ev_negate_19 ?_
    show jw X 0 0 (wtL D g A c S) [(0, .ref (g 17))] 20 [.ref (g (19 + (S.ev_stack (S.ev_height - 1))))]
    refine jr_astore_n [(1, .ref (g (19 + (S.ev_stack (S.ev_height - 1))))), (0, .ref (g 17))] ok d_Ev_negate_20 rfl (by rw [hN]; decide) rfl ?_
    refine jr_iconst ok d_Ev_negate_21 ?_
    refine jr_istore_n [(2, .int (ii 0)), (1, .ref (g (19 + (S.ev_stack (S.ev_height - 1))))), (0, .ref (g 17))] ok d_Ev_negate_22 rfl (by rw [hN]; decide) rfl ?_
    exact jr_lv [2, 1, 0] rfl (B_23 fU (S.ev_stack (S.ev_height - 1)) 0 S hb22 hs)
  · replace hs := oq_neg c20 hs
    exact jm_vret (Lf := wtL D g A c) ok fin hs d_Ev_negate_8

def q_Se_valueBegins_15 (c : CW) : Nat → Nat → Int → Int → Int → Int → WS → Option (Int × WS)
  | 0, _, _, _, _, _, _ => none
  | n + 1, v0, v1, v3, v4, v5, S => if w32 v4 ≤ w32 v5 then some (1, S) else mb2 (s_Se_valueLetter c S v0 v1 v5) (fun r8 S8 => mb2 (s_Tp_byteAt c S8 (v3 + v5)) (fun r9 S9 => if w32 r8 = w32 r9 then (q_Se_valueBegins_15 c n) v0 v1 v3 v4 (v5 + 1) S9 else some (0, S9)))

def s_Se_valueBegins (c : CW) (S : WS) (v0 : Nat) (v1 : Int) (v3 : Int) (v4 : Int) : Option (Int × WS) := mb2 (s_Se_valueLength c S v0 v1) (fun r11 S11 => if w32 v4 ≤ w32 r11 then q_Se_valueBegins_15 c fU v0 v1 v3 v4 0 S11 else some (0, S11))
set_option maxHeartbeats 4000000 in
set_option maxRecDepth 100000 in
theorem r_Se_valueBegins (l : Launch) (D : jd_T) (g : Nat → Nat) (A : AW) (c : CW) (S : WS) (v0 : Nat) (v1 : Int) (v3 : Int) (v4 : Int) (r : Int) (S9 : WS) (hv0 : v0 < c.N) (hs : s_Se_valueBegins c S v0 v1 v3 v4 = some (r, S9)) : jc_C l D y_Se_valueBegins b_Se_valueBegins 6 (some .boolean) { frames := 2, cells := 0, slots := 0, locals := 43 } [.ref (A.us v0 0), .int (ii v1), .ref (g 1), .int (ii v3), .int (ii v4)] (wtL D g A c S) (fun _ : Unit => (.returned (some (.int (ii r))), True, wtL D g A c S9)) := by
  refine jc_of rfl (Nat.le_of_ble_eq_true rfl) ?_
  intro X hl hR hN ok hnm fin
  subst hl
  have B_15 : ∀ (n15 : Nat), ∀ (v0 : Nat) (v1 : Int) (v3 : Int) (v4 : Int) (v5 : Int) (S : WS), v0 < c.N → q_Se_valueBegins_15 c n15 v0 v1 v3 v4 v5 S = some (r, S9) → jw X 0 0 (wtL D g A c S) [(0, .ref (A.us v0 0)), (1, .int (ii v1)), (2, .ref (g 1)), (3, .int (ii v3)), (4, .int (ii v4)), (5, .int (ii v5))] 15 [] := by
    intro n15
    induction n15 with
    | zero =>
      intro v0 v1 v3 v4 v5 S hv0 hs
      rw [q_Se_valueBegins_15] at hs; cases hs
    | succ n15 ih15 =>
      intro v0 v1 v3 v4 v5 S hv0 hs
      rw [q_Se_valueBegins_15] at hs
      refine jr_iload ok 5 d_Se_valueBegins_15 rfl ?_
      refine jr_iload ok 4 d_Se_valueBegins_17 rfl ?_
      refine jr_wicmp_ge 48 ok rfl rfl d_Se_valueBegins_19 (by decide) (fun c7 => ?_) (fun c7 => ?_)
      · replace hs := oq_pos c7 hs
        refine jr_iconst ok d_Se_valueBegins_48 ?_
        exact jm_zret (Lf := wtL D g A c) ok (by decide +kernel) fin hs d_Se_valueBegins_49
      · replace hs := oq_neg c7 hs
        refine jr_aload_n ok 0 d_Se_valueBegins_22 rfl rfl ?_
        refine jr_iload_n ok 1 d_Se_valueBegins_23 rfl rfl ?_
        refine jr_iload ok 5 d_Se_valueBegins_24 rfl ?_
        obtain ⟨r8, S8, hc8, hs⟩ := mb2_some hs
        refine jq_cV1 ok hR m_Se_55 (r_Se_valueLetter (jx_l X) D g A c S v0 v1 v5 r8 S8 hv0 hc8) (sg_atp (F := serW D A c S) 5 rfl hv0 0 rfl) rfl rfl rfl (Nat.le_of_ble_eq_true rfl) ⟨Nat.le_of_ble_eq_true rfl, Nat.le_of_ble_eq_true rfl⟩ ⟨Nat.zero_le _, Nat.zero_le _⟩ d_Se_valueBegins_26 ?_
        show jw X 0 0 (wtL D g A c S8) [(0, .ref (A.us v0 0)), (1, .int (ii v1)), (2, .ref (g 1)), (3, .int (ii v3)), (4, .int (ii v4)), (5, .int (ii v5))] 29 [.int (ii r8)]
        refine jr_aload_n ok 2 d_Se_valueBegins_29 rfl rfl ?_
        refine jr_iload_n ok 3 d_Se_valueBegins_30 rfl rfl ?_
        refine jr_iload ok 5 d_Se_valueBegins_31 rfl ?_
        refine jr_iadd ok d_Se_valueBegins_33 ?_
        obtain ⟨r9, S9, hc9, hs⟩ := mb2_some hs
        refine jq_cV1 ok hR m_Se_47 (r_Tp_byteAt (jx_l X) D g A c S8 (v3 + v5) r9 S9  hc9) (sg_atk 1 rfl) rfl rfl rfl (Nat.le_of_ble_eq_true rfl) ⟨Nat.le_of_ble_eq_true rfl, Nat.le_of_ble_eq_true rfl⟩ ⟨Nat.zero_le _, Nat.zero_le _⟩ d_Se_valueBegins_34 ?_
        show jw X 0 0 (wtL D g A c S9) [(0, .ref (A.us v0 0)), (1, .int (ii v1)), (2, .ref (g 1)), (3, .int (ii v3)), (4, .int (ii v4)), (5, .int (ii v5))] 37 [.int (ii r9), .int (ii r8)]
        refine jr_wicmp_eq 42 ok rfl rfl d_Se_valueBegins_37 (by decide) (fun c10 => ?_) (fun c10 => ?_)
        · replace hs := oq_pos c10 hs
          refine jr_iinc [(5, .int (ii (v5 + 1))), (0, .ref (A.us v0 0)), (1, .int (ii v1)), (2, .ref (g 1)), (3, .int (ii v3)), (4, .int (ii v4))] 5 ok d_Se_valueBegins_42 rfl (by rw [hN]; decide) rfl ?_
          refine jr_goto 15 ok d_Se_valueBegins_45 (by decide) ?_
          exact jr_lv [1, 2, 3, 4, 5, 0] rfl (ih15 v0 v1 v3 v4 (v5 + 1) S9 hv0 hs)
        · replace hs := oq_neg c10 hs
          refine jr_iconst ok d_Se_valueBegins_40 ?_
          exact jm_zret (Lf := wtL D g A c) ok (by decide +kernel) fin hs d_Se_valueBegins_41
  show jw X 0 0 (wtL D g A c S) [(0, .ref (A.us v0 0)), (1, .int (ii v1)), (2, .ref (g 1)), (3, .int (ii v3)), (4, .int (ii v4))] 0 []
  rw [s_Se_valueBegins] at hs
  refine jr_iload ok 4 d_Se_valueBegins_0 rfl ?_
  refine jr_aload_n ok 0 d_Se_valueBegins_2 rfl rfl ?_
  refine jr_iload_n ok 1 d_Se_valueBegins_3 rfl rfl ?_
  obtain ⟨r11, S11, hc11, hs⟩ := mb2_some hs
  refine jq_cV1 ok hR m_Se_52 (r_Se_valueLength (jx_l X) D g A c S v0 v1 r11 S11 hv0 hc11) (sg_atp (F := serW D A c S) 5 rfl hv0 0 rfl) rfl rfl rfl (Nat.le_of_ble_eq_true rfl) ⟨Nat.le_of_ble_eq_true rfl, Nat.le_of_ble_eq_true rfl⟩ ⟨Nat.zero_le _, Nat.zero_le _⟩ d_Se_valueBegins_4 ?_
  show jw X 0 0 (wtL D g A c S11) [(0, .ref (A.us v0 0)), (1, .int (ii v1)), (2, .ref (g 1)), (3, .int (ii v3)), (4, .int (ii v4))] 7 [.int (ii r11), .int (ii v4)]
  refine jr_wicmp_le 12 ok rfl rfl d_Se_valueBegins_7 (by decide) (fun c12 => ?_) (fun c12 => ?_)
  · replace hs := oq_pos c12 hs
    refine jr_iconst ok d_Se_valueBegins_12 ?_
    refine jr_istore [(5, .int (ii 0)), (0, .ref (A.us v0 0)), (1, .int (ii v1)), (2, .ref (g 1)), (3, .int (ii v3)), (4, .int (ii v4))] ok d_Se_valueBegins_13 (by rw [hN]; decide) rfl ?_
    exact jr_lv [1, 2, 3, 4, 5, 0] rfl (B_15 fU v0 v1 v3 v4 0 S11 hv0 hs)
  · replace hs := oq_neg c12 hs
    refine jr_iconst ok d_Se_valueBegins_10 ?_
    exact jm_zret (Lf := wtL D g A c) ok (by decide +kernel) fin hs d_Se_valueBegins_11

def s_St_letGo (c : CW) (S : WS) (v1 : Nat) (v2 : Int) (v3 : Int) : Option (Int × WS) := if w32 v2 < w32 v3 then mb2 (s_Pt_packedAmong c S v1 v2 v3) (fun r5 S5 => mb2 (s_Pt_remove c (WS.w_st_headSize S5 (S.st_headSize - ((v3 - v2) - r5))) v1 v2 v3) (fun r6 S6 => some (v3 - v2, S6))) else some (0, S)
set_option maxHeartbeats 4000000 in
set_option maxRecDepth 100000 in
theorem r_St_letGo (l : Launch) (D : jd_T) (g : Nat → Nat) (A : AW) (c : CW) (S : WS) (v1 : Nat) (v2 : Int) (v3 : Int) (r : Int) (S9 : WS) (hv1 : v1 < c.N) (hs : s_St_letGo c S v1 v2 v3 = some (r, S9)) : jc_C l D y_St_letGo b_St_letGo 4 (some .int) { frames := 3, cells := 0, slots := 0, locals := 74 } [.ref (g 2), .ref (A.us v1 5), .int (ii v2), .int (ii v3)] (wtL D g A c S) (fun _ : Unit => (.returned (some (.int (ii r))), True, wtL D g A c S9)) := by
  refine jc_of rfl (Nat.le_of_ble_eq_true rfl) ?_
  intro X hl hR hN ok hnm fin
  subst hl
  show jw X 0 0 (wtL D g A c S) [(0, .ref (g 2)), (1, .ref (A.us v1 5)), (2, .int (ii v2)), (3, .int (ii v3))] 0 []
  rw [s_St_letGo] at hs
  refine jr_iload_n ok 3 d_St_letGo_0 rfl rfl ?_
  refine jr_iload_n ok 2 d_St_letGo_1 rfl rfl ?_
  refine jr_wicmp_gt 7 ok rfl rfl d_St_letGo_2 (by decide) (fun c4 => ?_) (fun c4 => ?_)
  · replace hs := oq_pos c4 hs
    refine jr_aload_n ok 0 d_St_letGo_7 rfl rfl ?_
    refine jr_dup rfl ok d_St_letGo_8 ?_
    refine jr_get (v := .int (ii S.st_headSize)) ok 3 f_St_37 rfl rfl d_St_letGo_9 ?_
    refine jr_iload_n ok 3 d_St_letGo_12 rfl rfl ?_
    refine jr_iload_n ok 2 d_St_letGo_13 rfl rfl ?_
    refine jr_isub ok d_St_letGo_14 ?_
    refine jr_aload_n ok 1 d_St_letGo_15 rfl rfl ?_
    refine jr_iload_n ok 2 d_St_letGo_16 rfl rfl ?_
    refine jr_iload_n ok 3 d_St_letGo_17 rfl rfl ?_
    obtain ⟨r5, S5, hc5, hs⟩ := mb2_some hs
    refine jq_cV1 ok hR m_St_69 (r_Pt_packedAmong (jx_l X) D g A c S v1 v2 v3 r5 S5 hv1 hc5) (sg_atp (F := serW D A c S) 5 rfl hv1 5 rfl) rfl rfl rfl (Nat.le_of_ble_eq_true rfl) ⟨Nat.le_of_ble_eq_true rfl, Nat.le_of_ble_eq_true rfl⟩ ⟨Nat.zero_le _, Nat.zero_le _⟩ d_St_letGo_18 ?_
    show jw X 0 0 (wtL D g A c S5) [(0, .ref (g 2)), (1, .ref (A.us v1 5)), (2, .int (ii v2)), (3, .int (ii v3))] 21 [.int (ii r5), .int (ii (v3 - v2)), .int (ii S.st_headSize), .ref (g 2)]
    refine jr_isub ok d_St_letGo_21 ?_
    refine jr_isub ok d_St_letGo_22 ?_
    refine jr_put (wtL D g A c (WS.w_st_headSize S5 (S.st_headSize - ((v3 - v2) - r5)))) ok 3 f_St_37 rfl rfl rfl (Nat.le_of_ble_eq_true rfl) rfl d_St_letGo_23 ?_
    refine jr_aload_n ok 1 d_St_letGo_26 rfl rfl ?_
    refine jr_iload_n ok 2 d_St_letGo_27 rfl rfl ?_
    refine jr_iload_n ok 3 d_St_letGo_28 rfl rfl ?_
    obtain ⟨r6, S6, hc6, hs⟩ := mb2_some hs
    refine jq_cV0 ok hR m_St_73 (r_Pt_remove (jx_l X) D g A c (WS.w_st_headSize S5 (S.st_headSize - ((v3 - v2) - r5))) v1 v2 v3 r6 S6 hv1 hc6) (sg_atp (F := serW D A c (WS.w_st_headSize S5 (S.st_headSize - ((v3 - v2) - r5)))) 5 rfl hv1 5 rfl) rfl rfl rfl (Nat.le_of_ble_eq_true rfl) ⟨Nat.le_of_ble_eq_true rfl, Nat.le_of_ble_eq_true rfl⟩ ⟨Nat.zero_le _, Nat.zero_le _⟩ d_St_letGo_29 ?_
    show jw X 0 0 (wtL D g A c S6) [(0, .ref (g 2)), (1, .ref (A.us v1 5)), (2, .int (ii v2)), (3, .int (ii v3))] 32 []
    refine jr_iload_n ok 3 d_St_letGo_32 rfl rfl ?_
    refine jr_iload_n ok 2 d_St_letGo_33 rfl rfl ?_
    refine jr_isub ok d_St_letGo_34 ?_
    exact jm_iret (Lf := wtL D g A c) ok fin hs d_St_letGo_35
  · replace hs := oq_neg c4 hs
    refine jr_iconst ok d_St_letGo_5 ?_
    exact jm_iret (Lf := wtL D g A c) ok fin hs d_St_letGo_6

def q_Gd_moveLine_56 (c : CW) (k2 : Nat → Int → Int → Int → WS → Option (Unit × WS)) (v0 : Nat) (v1 : Int) (v2 : Int) (v3 : Int) (S : WS) : Option (Unit × WS) := k2 v0 v1 v2 (v3 + 1) S

def q_Gd_moveLine_2 (c : CW) : Nat → Nat → Int → Int → Int → WS → Option (Unit × WS)
  | 0, _, _, _, _, _ => none
  | n + 1, v0, v1, v2, v3, S => if w32 (S.gd_windows v0) ≤ w32 v3 then some ((), S) else mb2 (s_Gd_placeOf c S v0 v1 v3) (fun r11 S11 => mb2 (s_Gd_has c S11 v0 r11) (fun r12 S12 => if w32 r12 = 0 then mb2 (s_Gd_placeOf c S12 v0 v2 v3) (fun r14 S14 => mb2 (s_Gd_clear c S14 v0 r14) (fun r15 S15 => q_Gd_moveLine_56 c (q_Gd_moveLine_2 c n) v0 v1 v2 v3 S15)) else mb2 (s_Gd_placeOf c S12 v0 v2 v3) (fun r16 S16 => mb2 (s_Gd_numberAt c S16 v0 r11) (fun r17 S17 => mb2 (s_Gd_put c S17 v0 r16 r17) (fun r18 S18 => q_Gd_moveLine_56 c (q_Gd_moveLine_2 c n) v0 v1 v2 v3 S18)))))

def s_Gd_moveLine (c : CW) (S : WS) (v0 : Nat) (v1 : Int) (v2 : Int) : Option (Unit × WS) := q_Gd_moveLine_2 c fU v0 v1 v2 0 S
set_option maxHeartbeats 4000000 in
set_option maxRecDepth 100000 in
theorem r_Gd_moveLine (l : Launch) (D : jd_T) (g : Nat → Nat) (A : AW) (c : CW) (S : WS) (v0 : Nat) (v1 : Int) (v2 : Int) (r : Unit) (S9 : WS) (hv0 : v0 < 19) (hs : s_Gd_moveLine c S v0 v1 v2 = some (r, S9)) : jc_C l D y_Gd_moveLine b_Gd_moveLine 5 none { frames := 2, cells := 0, slots := 0, locals := 42 } [.ref (g (19 + v0)), .int (ii v1), .int (ii v2)] (wtL D g A c S) (fun _ : Unit => (.returned (none), True, wtL D g A c S9)) := by
  refine jc_of rfl (Nat.le_of_ble_eq_true rfl) ?_
  intro X hl hR hN ok hnm fin
  subst hl
  have B_2 : ∀ (n2 : Nat), ∀ (v0 : Nat) (v1 : Int) (v2 : Int) (v3 : Int) (S : WS), v0 < 19 → q_Gd_moveLine_2 c n2 v0 v1 v2 v3 S = some (r, S9) → jw X 0 0 (wtL D g A c S) [(0, .ref (g (19 + v0))), (1, .int (ii v1)), (2, .int (ii v2)), (3, .int (ii v3))] 2 [] := by
    intro n2
    induction n2 with
    | zero =>
      intro v0 v1 v2 v3 S hv0 hs
      rw [q_Gd_moveLine_2] at hs; cases hs
    | succ n2 ih2 =>
      have B_56 : ∀ (v0 : Nat) (v1 : Int) (v2 : Int) (v3 : Int) (S : WS), v0 < 19 → q_Gd_moveLine_56 c (q_Gd_moveLine_2 c n2) v0 v1 v2 v3 S = some (r, S9) → jw X 0 0 (wtL D g A c S) [(0, .ref (g (19 + v0))), (1, .int (ii v1)), (2, .int (ii v2)), (3, .int (ii v3))] 56 [] := by
        intro v0 v1 v2 v3 S hv0 hs
        rw [q_Gd_moveLine_56] at hs
        refine jr_iinc [(3, .int (ii (v3 + 1))), (0, .ref (g (19 + v0))), (1, .int (ii v1)), (2, .int (ii v2))] 3 ok d_Gd_moveLine_56 rfl (by rw [hN]; decide) rfl ?_
        refine jr_goto 2 ok d_Gd_moveLine_59 (by decide) ?_
        exact jr_lv [1, 2, 3, 0] rfl (ih2 v0 v1 v2 (v3 + 1) S hv0 hs)
      intro v0 v1 v2 v3 S hv0 hs
      rw [q_Gd_moveLine_2] at hs
      refine jr_iload_n ok 3 d_Gd_moveLine_2 rfl rfl ?_
      refine jr_aload_n ok 0 d_Gd_moveLine_3 rfl rfl ?_
      refine jq_get (v := .int (ii (S.gd_windows v0))) ok f_Gd_23 (sg_atp (F := grdW D g A c S) 23 rfl hv0 0 rfl) rfl d_Gd_moveLine_4 ?_
      refine jr_wicmp_ge 62 ok rfl rfl d_Gd_moveLine_7 (by decide) (fun c10 => ?_) (fun c10 => ?_)
      · replace hs := oq_pos c10 hs
        exact jm_vret (Lf := wtL D g A c) ok fin hs d_Gd_moveLine_62
      · replace hs := oq_neg c10 hs
        refine jr_aload_n ok 0 d_Gd_moveLine_10 rfl rfl ?_
        refine jr_iload_n ok 1 d_Gd_moveLine_11 rfl rfl ?_
        refine jr_iload_n ok 3 d_Gd_moveLine_12 rfl rfl ?_
        obtain ⟨r11, S11, hc11, hs⟩ := mb2_some hs
        refine jq_cV1 ok hR m_Gd_43 (r_Gd_placeOf (jx_l X) D g A c S v0 v1 v3 r11 S11 hv0 hc11) (sg_atp (F := grdW D g A c S) 23 rfl hv0 0 rfl) rfl rfl rfl (Nat.le_of_ble_eq_true rfl) ⟨Nat.le_of_ble_eq_true rfl, Nat.le_of_ble_eq_true rfl⟩ ⟨Nat.zero_le _, Nat.zero_le _⟩ d_Gd_moveLine_13 ?_
        show jw X 0 0 (wtL D g A c S11) [(0, .ref (g (19 + v0))), (1, .int (ii v1)), (2, .int (ii v2)), (3, .int (ii v3))] 16 [.int (ii r11)]
        refine jr_istore [(4, .int (ii r11)), (0, .ref (g (19 + v0))), (1, .int (ii v1)), (2, .int (ii v2)), (3, .int (ii v3))] ok d_Gd_moveLine_16 (by rw [hN]; decide) rfl ?_
        refine jr_aload_n ok 1 d_Gd_moveLine_18 rfl rfl ?_
        refine jr_iload ok 0 d_Gd_moveLine_19 rfl ?_
        obtain ⟨r12, S12, hc12, hs⟩ := mb2_some hs
        refine jq_cV1 ok hR m_Gd_39 (r_Gd_has (jx_l X) D g A c S11 v0 r11 r12 S12 hv0 hc12) (sg_atp (F := grdW D g A c S11) 23 rfl hv0 0 rfl) rfl rfl rfl (Nat.le_of_ble_eq_true rfl) ⟨Nat.le_of_ble_eq_true rfl, Nat.le_of_ble_eq_true rfl⟩ ⟨Nat.zero_le _, Nat.zero_le _⟩ d_Gd_moveLine_21 ?_
        show jw X 0 0 (wtL D g A c S12) [(4, .int (ii r11)), (0, .ref (g (19 + v0))), (1, .int (ii v1)), (2, .int (ii v2)), (3, .int (ii v3))] 24 [.int (ii r12)]
        refine jr_wif_eq 46 ok rfl d_Gd_moveLine_24 (by decide) (fun c13 => ?_) (fun c13 => ?_)
        · replace hs := oq_pos c13 hs
          refine jr_aload_n ok 1 d_Gd_moveLine_46 rfl rfl ?_
          refine jr_aload_n ok 1 d_Gd_moveLine_47 rfl rfl ?_
          refine jr_iload_n ok 3 d_Gd_moveLine_48 rfl rfl ?_
          refine jr_iload_n ok 4 d_Gd_moveLine_49 rfl rfl ?_
          obtain ⟨r14, S14, hc14, hs⟩ := mb2_some hs
          refine jq_cV1 ok hR m_Gd_43 (r_Gd_placeOf (jx_l X) D g A c S12 v0 v2 v3 r14 S14 hv0 hc14) (sg_atp (F := grdW D g A c S12) 23 rfl hv0 0 rfl) rfl rfl rfl (Nat.le_of_ble_eq_true rfl) ⟨Nat.le_of_ble_eq_true rfl, Nat.le_of_ble_eq_true rfl⟩ ⟨Nat.zero_le _, Nat.zero_le _⟩ d_Gd_moveLine_50 ?_
          show jw X 0 0 (wtL D g A c S14) [(4, .int (ii r11)), (0, .ref (g (19 + v0))), (1, .int (ii v1)), (2, .int (ii v2)), (3, .int (ii v3))] 53 [.int (ii r14), .ref (g (19 + v0))]
          obtain ⟨r15, S15, hc15, hs⟩ := mb2_some hs
          refine jq_cV0 ok hR m_Gd_54 (r_Gd_clear (jx_l X) D g A c S14 v0 r14 r15 S15 hv0 hc15) (sg_atp (F := grdW D g A c S14) 23 rfl hv0 0 rfl) rfl rfl rfl (Nat.le_of_ble_eq_true rfl) ⟨Nat.le_of_ble_eq_true rfl, Nat.le_of_ble_eq_true rfl⟩ ⟨Nat.zero_le _, Nat.zero_le _⟩ d_Gd_moveLine_53 ?_
          show jw X 0 0 (wtL D g A c S15) [(4, .int (ii r11)), (0, .ref (g (19 + v0))), (1, .int (ii v1)), (2, .int (ii v2)), (3, .int (ii v3))] 56 []
          exact jr_lv [1, 2, 3, 4] rfl (B_56 v0 v1 v2 v3 S15 hv0 hs)
        · replace hs := oq_neg c13 hs
          refine jr_aload_n ok 1 d_Gd_moveLine_27 rfl rfl ?_
          refine jr_aload_n ok 1 d_Gd_moveLine_28 rfl rfl ?_
          refine jr_iload_n ok 3 d_Gd_moveLine_29 rfl rfl ?_
          refine jr_iload_n ok 4 d_Gd_moveLine_30 rfl rfl ?_
          obtain ⟨r16, S16, hc16, hs⟩ := mb2_some hs
          refine jq_cV1 ok hR m_Gd_43 (r_Gd_placeOf (jx_l X) D g A c S12 v0 v2 v3 r16 S16 hv0 hc16) (sg_atp (F := grdW D g A c S12) 23 rfl hv0 0 rfl) rfl rfl rfl (Nat.le_of_ble_eq_true rfl) ⟨Nat.le_of_ble_eq_true rfl, Nat.le_of_ble_eq_true rfl⟩ ⟨Nat.zero_le _, Nat.zero_le _⟩ d_Gd_moveLine_31 ?_
          show jw X 0 0 (wtL D g A c S16) [(4, .int (ii r11)), (0, .ref (g (19 + v0))), (1, .int (ii v1)), (2, .int (ii v2)), (3, .int (ii v3))] 34 [.int (ii r16), .ref (g (19 + v0))]
          refine jr_aload_n ok 1 d_Gd_moveLine_34 rfl rfl ?_
          refine jr_iload ok 0 d_Gd_moveLine_35 rfl ?_
          obtain ⟨r17, S17, hc17, hs⟩ := mb2_some hs
          refine jq_cV1 ok hR m_Gd_46 (r_Gd_numberAt (jx_l X) D g A c S16 v0 r11 r17 S17 hv0 hc17) (sg_atp (F := grdW D g A c S16) 23 rfl hv0 0 rfl) rfl rfl rfl (Nat.le_of_ble_eq_true rfl) ⟨Nat.le_of_ble_eq_true rfl, Nat.le_of_ble_eq_true rfl⟩ ⟨Nat.zero_le _, Nat.zero_le _⟩ d_Gd_moveLine_37 ?_
          show jw X 0 0 (wtL D g A c S17) [(4, .int (ii r11)), (0, .ref (g (19 + v0))), (1, .int (ii v1)), (2, .int (ii v2)), (3, .int (ii v3))] 40 [.long r17, .int (ii r16), .ref (g (19 + v0))]
          obtain ⟨r18, S18, hc18, hs⟩ := mb2_some hs
          refine jq_cV0 ok hR m_Gd_50 (r_Gd_put (jx_l X) D g A c S17 v0 r16 r17 r18 S18 hv0 hc18) (sg_atp (F := grdW D g A c S17) 23 rfl hv0 0 rfl) rfl rfl rfl (Nat.le_of_ble_eq_true rfl) ⟨Nat.le_of_ble_eq_true rfl, Nat.le_of_ble_eq_true rfl⟩ ⟨Nat.zero_le _, Nat.zero_le _⟩ d_Gd_moveLine_40 ?_
          show jw X 0 0 (wtL D g A c S18) [(4, .int (ii r11)), (0, .ref (g (19 + v0))), (1, .int (ii v1)), (2, .int (ii v2)), (3, .int (ii v3))] 43 []
          refine jr_goto 56 ok d_Gd_moveLine_43 (by decide) ?_
          exact jr_lv [1, 2, 3, 4] rfl (B_56 v0 v1 v2 v3 S18 hv0 hs)
  show jw X 0 0 (wtL D g A c S) [(0, .ref (g (19 + v0))), (1, .int (ii v1)), (2, .int (ii v2))] 0 []
  rw [s_Gd_moveLine] at hs
  refine jr_iconst ok d_Gd_moveLine_0 ?_
  refine jr_istore_n [(3, .int (ii 0)), (0, .ref (g (19 + v0))), (1, .int (ii v1)), (2, .int (ii v2))] ok d_Gd_moveLine_1 rfl (by rw [hN]; decide) rfl ?_
  exact jr_lv [1, 2, 3, 0] rfl (B_2 fU v0 v1 v2 0 S hv0 hs)

def s_Gr_letterAt (c : CW) (S : WS) (v1 : Int) (v2 : Int) (v3 : Int) : Option (Int × WS) := if w32 v1 < 0 then some (-1, S) else if w32 S.gr_size ≤ w32 v1 then some (-1, S) else if w32 v2 < 0 then some (-1, S) else if w32 v2 < w32 S.gr_nameCount then if (0 : Int) ≤ v1 ∧ v1 < (256 : Int) then if ((0 : Int) ≤ (S.gr_leaders v1) ∧ (S.gr_leaders v1) < (c.N : Int)) ∧ c.N ≤ 256 then if (0 : Int) ≤ v1 ∧ v1 < (256 : Int) then mb2 (s_Gr_labelOf c S (S.gr_leaders v1) v2) (fun r19 S19 => mb2 (s_Se_valueLetter c S19 ((S.gr_leaders v1).toNat) r19 v3) (fun r20 S20 => some (r20, S20))) else none else none else none else some (-1, S)
set_option maxHeartbeats 4000000 in
set_option maxRecDepth 100000 in
theorem r_Gr_letterAt (l : Launch) (D : jd_T) (g : Nat → Nat) (A : AW) (c : CW) (S : WS) (v1 : Int) (v2 : Int) (v3 : Int) (r : Int) (S9 : WS)  (hs : s_Gr_letterAt c S v1 v2 v3 = some (r, S9)) : jc_C l D y_Gr_letterAt b_Gr_letterAt 5 (some .int) { frames := 2, cells := 0, slots := 0, locals := 43 } [.ref (g 12), .int (ii v1), .int (ii v2), .int (ii v3)] (wtL D g A c S) (fun _ : Unit => (.returned (some (.int (ii r))), True, wtL D g A c S9)) := by
  refine jc_of rfl (Nat.le_of_ble_eq_true rfl) ?_
  intro X hl hR hN ok hnm fin
  subst hl
  show jw X 0 0 (wtL D g A c S) [(0, .ref (g 12)), (1, .int (ii v1)), (2, .int (ii v2)), (3, .int (ii v3))] 0 []
  rw [s_Gr_letterAt] at hs
  refine jr_iload_n ok 1 d_Gr_letterAt_0 rfl rfl ?_
  refine jr_wif_lt 24 ok rfl d_Gr_letterAt_1 (by decide) (fun c11 => ?_) (fun c11 => ?_)
  · replace hs := oq_pos c11 hs
    refine jr_iconst ok d_Gr_letterAt_24 ?_
    exact jm_iret (Lf := wtL D g A c) ok fin hs d_Gr_letterAt_25
  · replace hs := oq_neg c11 hs
    refine jr_iload_n ok 1 d_Gr_letterAt_4 rfl rfl ?_
    refine jr_aload_n ok 0 d_Gr_letterAt_5 rfl rfl ?_
    refine jr_get (v := .int (ii S.gr_size)) ok 15 f_Gr_40 rfl rfl d_Gr_letterAt_6 ?_
    refine jr_wicmp_ge 24 ok rfl rfl d_Gr_letterAt_9 (by decide) (fun c12 => ?_) (fun c12 => ?_)
    · replace hs := oq_pos c12 hs
      refine jr_iconst ok d_Gr_letterAt_24 ?_
      exact jm_iret (Lf := wtL D g A c) ok fin hs d_Gr_letterAt_25
    · replace hs := oq_neg c12 hs
      refine jr_iload_n ok 2 d_Gr_letterAt_12 rfl rfl ?_
      refine jr_wif_lt 24 ok rfl d_Gr_letterAt_13 (by decide) (fun c13 => ?_) (fun c13 => ?_)
      · replace hs := oq_pos c13 hs
        refine jr_iconst ok d_Gr_letterAt_24 ?_
        exact jm_iret (Lf := wtL D g A c) ok fin hs d_Gr_letterAt_25
      · replace hs := oq_neg c13 hs
        refine jr_iload_n ok 2 d_Gr_letterAt_16 rfl rfl ?_
        refine jr_aload_n ok 0 d_Gr_letterAt_17 rfl rfl ?_
        refine jr_get (v := .int (ii S.gr_nameCount)) ok 15 f_Gr_36 rfl rfl d_Gr_letterAt_18 ?_
        refine jr_wicmp_lt 26 ok rfl rfl d_Gr_letterAt_21 (by decide) (fun c14 => ?_) (fun c14 => ?_)
        · replace hs := oq_pos c14 hs
          refine jr_aload_n ok 0 d_Gr_letterAt_26 rfl rfl ?_
          refine jr_get (v := .ref (g 2)) ok 15 f_Gr_28 rfl rfl d_Gr_letterAt_27 ?_
          refine jr_aload_n ok 0 d_Gr_letterAt_30 rfl rfl ?_
          refine jr_get (v := .ref (g 16)) ok 15 f_Gr_21 rfl rfl d_Gr_letterAt_31 ?_
          refine jr_iload_n ok 1 d_Gr_letterAt_34 rfl rfl ?_
          obtain ⟨hb15, hs⟩ := oq_if hs
          refine jr_iald ok 19 rfl rfl hb15.1 hb15.2 d_Gr_letterAt_35 ?_
          obtain ⟨hb17, hs⟩ := oq_if hs
          refine jq_cV1 ok hR m_Gr_71 (r_St_find (jx_l X) D g A c S (S.gr_leaders v1) hb17) (sg_atk 3 rfl) rfl rfl rfl (Nat.le_of_ble_eq_true rfl) ⟨Nat.le_of_ble_eq_true rfl, Nat.le_of_ble_eq_true rfl⟩ ⟨Nat.zero_le _, Nat.zero_le _⟩ d_Gr_letterAt_36 ?_
          show jw X 0 0 (wtL D g A c S) [(0, .ref (g 12)), (1, .int (ii v1)), (2, .int (ii v2)), (3, .int (ii v3))] 39 [.ref (A.us ((S.gr_leaders v1).toNat) 0)]
          refine jr_astore [(4, .ref (A.us ((S.gr_leaders v1).toNat) 0)), (0, .ref (g 12)), (1, .int (ii v1)), (2, .int (ii v2)), (3, .int (ii v3))] ok d_Gr_letterAt_39 (by rw [hN]; decide) rfl ?_
          refine jr_aload ok 0 d_Gr_letterAt_41 rfl ?_
          refine jr_ifnonnull_r 50 ok d_Gr_letterAt_43 (by decide) ?_
          refine jr_aload ok 0 d_Gr_letterAt_50 rfl ?_
          refine jr_aload_n ok 1 d_Gr_letterAt_52 rfl rfl ?_
          refine jr_aload_n ok 1 d_Gr_letterAt_53 rfl rfl ?_
          refine jr_get (v := .ref (g 16)) ok 15 f_Gr_21 rfl rfl d_Gr_letterAt_54 ?_
          refine jr_iload_n ok 2 d_Gr_letterAt_57 rfl rfl ?_
          obtain ⟨hb18, hs⟩ := oq_if hs
          refine jr_iald ok 19 rfl rfl hb18.1 hb18.2 d_Gr_letterAt_58 ?_
          refine jr_iload_n ok 3 d_Gr_letterAt_59 rfl rfl ?_
          obtain ⟨r19, S19, hc19, hs⟩ := mb2_some hs
          refine jq_cV1 ok hR m_Gr_93 (r_Gr_labelOf (jx_l X) D g A c S (S.gr_leaders v1) v2 r19 S19  hc19) (sg_atk 15 rfl) rfl rfl rfl (Nat.le_of_ble_eq_true rfl) ⟨Nat.le_of_ble_eq_true rfl, Nat.le_of_ble_eq_true rfl⟩ ⟨Nat.zero_le _, Nat.zero_le _⟩ d_Gr_letterAt_60 ?_
          show jw X 0 0 (wtL D g A c S19) [(4, .ref (A.us ((S.gr_leaders v1).toNat) 0)), (0, .ref (g 12)), (1, .int (ii v1)), (2, .int (ii v2)), (3, .int (ii v3))] 63 [.int (ii r19), .ref (A.us ((S.gr_leaders v1).toNat) 0)]
          refine jr_iload_n ok 4 d_Gr_letterAt_63 rfl rfl ?_
          obtain ⟨r20, S20, hc20, hs⟩ := mb2_some hs
          refine jq_cV1 ok hR m_Gr_100 (r_Se_valueLetter (jx_l X) D g A c S19 ((S.gr_leaders v1).toNat) r19 v3 r20 S20 (idx_lt hb17.1.1 hb17.1.2) hc20) (sg_atp (F := serW D A c S19) 5 rfl (idx_lt hb17.1.1 hb17.1.2) 0 rfl) rfl rfl rfl (Nat.le_of_ble_eq_true rfl) ⟨Nat.le_of_ble_eq_true rfl, Nat.le_of_ble_eq_true rfl⟩ ⟨Nat.zero_le _, Nat.zero_le _⟩ d_Gr_letterAt_64 ?_
          show jw X 0 0 (wtL D g A c S20) [(4, .ref (A.us ((S.gr_leaders v1).toNat) 0)), (0, .ref (g 12)), (1, .int (ii v1)), (2, .int (ii v2)), (3, .int (ii v3))] 67 [.int (ii r20)]
          exact jm_iret (Lf := wtL D g A c) ok fin hs d_Gr_letterAt_67
        · replace hs := oq_neg c14 hs
          refine jr_iconst ok d_Gr_letterAt_24 ?_
          exact jm_iret (Lf := wtL D g A c) ok fin hs d_Gr_letterAt_25

def s_QR_isName (c : CW) (S : WS) (v1 : Int) (v2 : Int) (v3 : Int) (v4 : Int) : Option (Int × WS) := mb2 (s_Pg_nameAt c S v1 v2) (fun r5 S5 => mb2 (s_Pg_nameLength c S5 v1 v2) (fun r6 S6 => mb2 (s_Tp_compare c S6 r5 (r5 + r6) v3 (v3 + v4)) (fun r7 S7 => if w32 r7 = 0 then some (1, S7) else some (0, S7))))
set_option maxHeartbeats 4000000 in
set_option maxRecDepth 100000 in
theorem r_QR_isName (l : Launch) (D : jd_T) (g : Nat → Nat) (A : AW) (c : CW) (S : WS) (v1 : Int) (v2 : Int) (v3 : Int) (v4 : Int) (r : Int) (S9 : WS)  (hs : s_QR_isName c S v1 v2 v3 v4 = some (r, S9)) : jc_C l D y_QR_isName b_QR_isName 6 (some .boolean) { frames := 2, cells := 0, slots := 0, locals := 49 } [.ref (g 10), .int (ii v1), .int (ii v2), .int (ii v3), .int (ii v4)] (wtL D g A c S) (fun _ : Unit => (.returned (some (.int (ii r))), True, wtL D g A c S9)) := by
  refine jc_of rfl (Nat.le_of_ble_eq_true rfl) ?_
  intro X hl hR hN ok hnm fin
  subst hl
  show jw X 0 0 (wtL D g A c S) [(0, .ref (g 10)), (1, .int (ii v1)), (2, .int (ii v2)), (3, .int (ii v3)), (4, .int (ii v4))] 0 []
  rw [s_QR_isName] at hs
  refine jr_aload_n ok 0 d_QR_isName_0 rfl rfl ?_
  refine jr_get (v := .ref (g 9)) ok 13 f_QR_15 rfl rfl d_QR_isName_1 ?_
  refine jr_iload_n ok 1 d_QR_isName_4 rfl rfl ?_
  refine jr_iload_n ok 2 d_QR_isName_5 rfl rfl ?_
  obtain ⟨r5, S5, hc5, hs⟩ := mb2_some hs
  refine jq_cV1 ok hR m_QR_102 (r_Pg_nameAt (jx_l X) D g A c S v1 v2 r5 S5  hc5) (sg_atk 11 rfl) rfl rfl rfl (Nat.le_of_ble_eq_true rfl) ⟨Nat.le_of_ble_eq_true rfl, Nat.le_of_ble_eq_true rfl⟩ ⟨Nat.zero_le _, Nat.zero_le _⟩ d_QR_isName_6 ?_
  show jw X 0 0 (wtL D g A c S5) [(0, .ref (g 10)), (1, .int (ii v1)), (2, .int (ii v2)), (3, .int (ii v3)), (4, .int (ii v4))] 9 [.int (ii r5)]
  refine jr_istore [(5, .int (ii r5)), (0, .ref (g 10)), (1, .int (ii v1)), (2, .int (ii v2)), (3, .int (ii v3)), (4, .int (ii v4))] ok d_QR_isName_9 (by rw [hN]; decide) rfl ?_
  refine jr_aload_n ok 1 d_QR_isName_11 rfl rfl ?_
  refine jr_get (v := .ref (g 1)) ok 13 f_QR_9 rfl rfl d_QR_isName_12 ?_
  refine jr_iload ok 0 d_QR_isName_15 rfl ?_
  refine jr_iload ok 0 d_QR_isName_17 rfl ?_
  refine jr_aload_n ok 1 d_QR_isName_19 rfl rfl ?_
  refine jr_get (v := .ref (g 9)) ok 13 f_QR_15 rfl rfl d_QR_isName_20 ?_
  refine jr_iload_n ok 2 d_QR_isName_23 rfl rfl ?_
  refine jr_iload_n ok 3 d_QR_isName_24 rfl rfl ?_
  obtain ⟨r6, S6, hc6, hs⟩ := mb2_some hs
  refine jq_cV1 ok hR m_QR_106 (r_Pg_nameLength (jx_l X) D g A c S5 v1 v2 r6 S6  hc6) (sg_atk 11 rfl) rfl rfl rfl (Nat.le_of_ble_eq_true rfl) ⟨Nat.le_of_ble_eq_true rfl, Nat.le_of_ble_eq_true rfl⟩ ⟨Nat.zero_le _, Nat.zero_le _⟩ d_QR_isName_25 ?_
  show jw X 0 0 (wtL D g A c S6) [(5, .int (ii r5)), (0, .ref (g 10)), (1, .int (ii v1)), (2, .int (ii v2)), (3, .int (ii v3)), (4, .int (ii v4))] 28 [.int (ii r6), .int (ii r5), .int (ii r5), .ref (g 1)]
  refine jr_iadd ok d_QR_isName_28 ?_
  refine jr_iload_n ok 4 d_QR_isName_29 rfl rfl ?_
  refine jr_iload_n ok 4 d_QR_isName_30 rfl rfl ?_
  refine jr_iload ok 5 d_QR_isName_31 rfl ?_
  refine jr_iadd ok d_QR_isName_33 ?_
  obtain ⟨r7, S7, hc7, hs⟩ := mb2_some hs
  refine jq_cV1 ok hR m_QR_113 (r_Tp_compare (jx_l X) D g A c S6 r5 (r5 + r6) v3 (v3 + v4) r7 S7  hc7) (sg_atk 1 rfl) rfl rfl rfl (Nat.le_of_ble_eq_true rfl) ⟨Nat.le_of_ble_eq_true rfl, Nat.le_of_ble_eq_true rfl⟩ ⟨Nat.zero_le _, Nat.zero_le _⟩ d_QR_isName_34 ?_
  show jw X 0 0 (wtL D g A c S7) [(5, .int (ii r5)), (0, .ref (g 10)), (1, .int (ii v1)), (2, .int (ii v2)), (3, .int (ii v3)), (4, .int (ii v4))] 37 [.int (ii r7)]
  refine jr_wif_ne 44 ok rfl d_QR_isName_37 (by decide) (fun c8 => ?_) (fun c8 => ?_)
  · replace hs := oq_neg c8 hs
    refine jr_iconst ok d_QR_isName_44 ?_
    exact jm_zret (Lf := wtL D g A c) ok (by decide +kernel) fin hs d_QR_isName_45
  · replace hs := oq_pos c8 hs
    refine jr_iconst ok d_QR_isName_40 ?_
    refine jr_goto 45 ok d_QR_isName_41 (by decide) ?_
    exact jm_zret (Lf := wtL D g A c) ok (by decide +kernel) fin hs d_QR_isName_45

def q_Se_labelNamed_62 (c : CW) (k3 : Nat → Int → Int → Int → WS → Option (Int × WS)) (v0 : Nat) (v2 : Int) (v3 : Int) (v4 : Int) (S : WS) : Option (Int × WS) := k3 v0 v2 v3 (v4 + 1) S

def q_Se_labelNamed_3 (c : CW) : Nat → Nat → Int → Int → Int → WS → Option (Int × WS)
  | 0, _, _, _, _, _ => none
  | n + 1, v0, v2, v3, v4, S => if w32 (c.lm v0) ≤ w32 v4 then some (-1, S) else if w32 (c.lm v0) ≤ w32 v4 then some (-1, S) else if (0 : Int) ≤ v4 ∧ v4 < (c.lm v0 : Int) then if (0 : Int) ≤ v4 ∧ v4 < (c.lm v0 : Int) then if w32 ((S.se_signs v0 v4) - (S.se_starts v0 v4)) = w32 v3 then if (0 : Int) ≤ v4 ∧ v4 < (c.lm v0 : Int) then mb2 (s_Se_isOnTape c S v0 (S.se_starts v0 v4) v2 v3) (fun r15 S15 => if w32 r15 = 0 then q_Se_labelNamed_62 c (q_Se_labelNamed_3 c n) v0 v2 v3 v4 S15 else some (v4, S15)) else none else q_Se_labelNamed_62 c (q_Se_labelNamed_3 c n) v0 v2 v3 v4 S else none else none

def s_Se_labelNamed (c : CW) (S : WS) (v0 : Nat) (v2 : Int) (v3 : Int) : Option (Int × WS) := q_Se_labelNamed_3 c fU v0 v2 v3 0 S
set_option maxHeartbeats 4000000 in
set_option maxRecDepth 100000 in
theorem r_Se_labelNamed (l : Launch) (D : jd_T) (g : Nat → Nat) (A : AW) (c : CW) (S : WS) (v0 : Nat) (v2 : Int) (v3 : Int) (r : Int) (S9 : WS) (hv0 : v0 < c.N) (hs : s_Se_labelNamed c S v0 v2 v3 = some (r, S9)) : jc_C l D y_Se_labelNamed b_Se_labelNamed 5 (some .int) { frames := 2, cells := 0, slots := 0, locals := 46 } [.ref (A.us v0 0), .ref (g 1), .int (ii v2), .int (ii v3)] (wtL D g A c S) (fun _ : Unit => (.returned (some (.int (ii r))), True, wtL D g A c S9)) := by
  refine jc_of rfl (Nat.le_of_ble_eq_true rfl) ?_
  intro X hl hR hN ok hnm fin
  subst hl
  have B_3 : ∀ (n3 : Nat), ∀ (v0 : Nat) (v2 : Int) (v3 : Int) (v4 : Int) (S : WS), v0 < c.N → q_Se_labelNamed_3 c n3 v0 v2 v3 v4 S = some (r, S9) → jw X 0 0 (wtL D g A c S) [(0, .ref (A.us v0 0)), (1, .ref (g 1)), (2, .int (ii v2)), (3, .int (ii v3)), (4, .int (ii v4))] 3 [] := by
    intro n3
    induction n3 with
    | zero =>
      intro v0 v2 v3 v4 S hv0 hs
      rw [q_Se_labelNamed_3] at hs; cases hs
    | succ n3 ih3 =>
      have B_62 : ∀ (v0 : Nat) (v2 : Int) (v3 : Int) (v4 : Int) (S : WS), v0 < c.N → q_Se_labelNamed_62 c (q_Se_labelNamed_3 c n3) v0 v2 v3 v4 S = some (r, S9) → jw X 0 0 (wtL D g A c S) [(0, .ref (A.us v0 0)), (1, .ref (g 1)), (2, .int (ii v2)), (3, .int (ii v3)), (4, .int (ii v4))] 62 [] := by
        intro v0 v2 v3 v4 S hv0 hs
        rw [q_Se_labelNamed_62] at hs
        refine jr_iinc [(4, .int (ii (v4 + 1))), (0, .ref (A.us v0 0)), (1, .ref (g 1)), (2, .int (ii v2)), (3, .int (ii v3))] 4 ok d_Se_labelNamed_62 rfl (by rw [hN]; decide) rfl ?_
        refine jr_goto 3 ok d_Se_labelNamed_65 (by decide) ?_
        exact jr_lv [1, 2, 3, 4, 0] rfl (ih3 v0 v2 v3 (v4 + 1) S hv0 hs)
      intro v0 v2 v3 v4 S hv0 hs
      rw [q_Se_labelNamed_3] at hs
      refine jr_iload ok 4 d_Se_labelNamed_3 rfl ?_
      refine jr_aload_n ok 0 d_Se_labelNamed_5 rfl rfl ?_
      refine jq_get (v := .ref (A.us v0 2)) ok f_Se_22 (sg_atp (F := serW D A c S) 5 rfl hv0 0 rfl) rfl d_Se_labelNamed_6 ?_
      refine jq_alen_i ok (sg_atp (F := serW D A c S) 5 rfl hv0 2 rfl) rfl d_Se_labelNamed_9 ?_
      refine jr_wicmp_ge 68 ok rfl rfl d_Se_labelNamed_10 (by decide) (fun c9 => ?_) (fun c9 => ?_)
      · replace hs := oq_pos c9 hs
        refine jr_iconst ok d_Se_labelNamed_68 ?_
        exact jm_iret (Lf := wtL D g A c) ok fin hs d_Se_labelNamed_69
      · replace hs := oq_neg c9 hs
        refine jr_iload ok 4 d_Se_labelNamed_13 rfl ?_
        refine jr_aload_n ok 0 d_Se_labelNamed_15 rfl rfl ?_
        refine jq_get (v := .ref (A.us v0 3)) ok f_Se_26 (sg_atp (F := serW D A c S) 5 rfl hv0 0 rfl) rfl d_Se_labelNamed_16 ?_
        refine jq_alen_i ok (sg_atp (F := serW D A c S) 5 rfl hv0 3 rfl) rfl d_Se_labelNamed_19 ?_
        refine jr_wicmp_ge 68 ok rfl rfl d_Se_labelNamed_20 (by decide) (fun c10 => ?_) (fun c10 => ?_)
        · replace hs := oq_pos c10 hs
          refine jr_iconst ok d_Se_labelNamed_68 ?_
          exact jm_iret (Lf := wtL D g A c) ok fin hs d_Se_labelNamed_69
        · replace hs := oq_neg c10 hs
          refine jr_aload_n ok 0 d_Se_labelNamed_23 rfl rfl ?_
          refine jq_get (v := .ref (A.us v0 3)) ok f_Se_26 (sg_atp (F := serW D A c S) 5 rfl hv0 0 rfl) rfl d_Se_labelNamed_24 ?_
          refine jr_iload ok 4 d_Se_labelNamed_27 rfl ?_
          obtain ⟨hb11, hs⟩ := oq_if hs
          refine jq_iald ok (sg_atp (F := serW D A c S) 5 rfl hv0 3 rfl) rfl hb11.1 hb11.2 d_Se_labelNamed_29 ?_
          refine jr_aload_n ok 0 d_Se_labelNamed_30 rfl rfl ?_
          refine jq_get (v := .ref (A.us v0 2)) ok f_Se_22 (sg_atp (F := serW D A c S) 5 rfl hv0 0 rfl) rfl d_Se_labelNamed_31 ?_
          refine jr_iload ok 4 d_Se_labelNamed_34 rfl ?_
          obtain ⟨hb12, hs⟩ := oq_if hs
          refine jq_iald ok (sg_atp (F := serW D A c S) 5 rfl hv0 2 rfl) rfl hb12.1 hb12.2 d_Se_labelNamed_36 ?_
          refine jr_isub ok d_Se_labelNamed_37 ?_
          refine jr_iload_n ok 3 d_Se_labelNamed_38 rfl rfl ?_
          refine jr_wicmp_ne 62 ok rfl rfl d_Se_labelNamed_39 (by decide) (fun c13 => ?_) (fun c13 => ?_)
          · replace hs := oq_neg c13 hs
            exact jr_lv [0, 1, 2, 3, 4] rfl (B_62 v0 v2 v3 v4 S hv0 hs)
          · replace hs := oq_pos c13 hs
            refine jr_aload_n ok 0 d_Se_labelNamed_42 rfl rfl ?_
            refine jr_aload_n ok 0 d_Se_labelNamed_43 rfl rfl ?_
            refine jq_get (v := .ref (A.us v0 2)) ok f_Se_22 (sg_atp (F := serW D A c S) 5 rfl hv0 0 rfl) rfl d_Se_labelNamed_44 ?_
            refine jr_iload ok 4 d_Se_labelNamed_47 rfl ?_
            obtain ⟨hb14, hs⟩ := oq_if hs
            refine jq_iald ok (sg_atp (F := serW D A c S) 5 rfl hv0 2 rfl) rfl hb14.1 hb14.2 d_Se_labelNamed_49 ?_
            refine jr_aload_n ok 1 d_Se_labelNamed_50 rfl rfl ?_
            refine jr_iload_n ok 2 d_Se_labelNamed_51 rfl rfl ?_
            refine jr_iload_n ok 3 d_Se_labelNamed_52 rfl rfl ?_
            obtain ⟨r15, S15, hc15, hs⟩ := mb2_some hs
            refine jq_cV1 ok hR m_Se_42 (r_Se_isOnTape (jx_l X) D g A c S v0 (S.se_starts v0 v4) v2 v3 r15 S15 hv0 hc15) (sg_atp (F := serW D A c S) 5 rfl hv0 0 rfl) rfl rfl rfl (Nat.le_of_ble_eq_true rfl) ⟨Nat.le_of_ble_eq_true rfl, Nat.le_of_ble_eq_true rfl⟩ ⟨Nat.zero_le _, Nat.zero_le _⟩ d_Se_labelNamed_53 ?_
            show jw X 0 0 (wtL D g A c S15) [(0, .ref (A.us v0 0)), (1, .ref (g 1)), (2, .int (ii v2)), (3, .int (ii v3)), (4, .int (ii v4))] 56 [.int (ii r15)]
            refine jr_wif_eq 62 ok rfl d_Se_labelNamed_56 (by decide) (fun c16 => ?_) (fun c16 => ?_)
            · replace hs := oq_pos c16 hs
              exact jr_lv [0, 1, 2, 3, 4] rfl (B_62 v0 v2 v3 v4 S15 hv0 hs)
            · replace hs := oq_neg c16 hs
              refine jr_iload ok 4 d_Se_labelNamed_59 rfl ?_
              exact jm_iret (Lf := wtL D g A c) ok fin hs d_Se_labelNamed_61
  show jw X 0 0 (wtL D g A c S) [(0, .ref (A.us v0 0)), (1, .ref (g 1)), (2, .int (ii v2)), (3, .int (ii v3))] 0 []
  rw [s_Se_labelNamed] at hs
  refine jr_iconst ok d_Se_labelNamed_0 ?_
  refine jr_istore [(4, .int (ii 0)), (0, .ref (A.us v0 0)), (1, .ref (g 1)), (2, .int (ii v2)), (3, .int (ii v3))] ok d_Se_labelNamed_1 (by rw [hN]; decide) rfl ?_
  exact jr_lv [1, 2, 3, 4, 0] rfl (B_3 fU v0 v2 v3 0 S hv0 hs)

def q_Se_compareValue_18 (c : CW) : Nat → Nat → Int → Nat → Int → Int → Int → WS → Option (Int × WS)
  | 0, _, _, _, _, _, _, _ => none
  | n + 1, v0, v1, v2, v3, v4, v5, S => if w32 v4 ≤ w32 v5 then some (0, S) else mb2 (s_Se_valueLetter c S v0 v1 v5) (fun r8 S8 => mb2 (s_Se_valueLetter c S8 v2 v3 v5) (fun r9 S9 => if w32 (cmpI (w32 r8) (w32 r9)) = 0 then (q_Se_compareValue_18 c n) v0 v1 v2 v3 v4 (v5 + 1) S9 else some (cmpI (w32 r8) (w32 r9), S9)))

def s_Se_compareValue (c : CW) (S : WS) (v0 : Nat) (v1 : Int) (v2 : Nat) (v3 : Int) : Option (Int × WS) := mb2 (s_Se_valueLength c S v0 v1) (fun r11 S11 => mb2 (s_Se_valueLength c S11 v2 v3) (fun r12 S12 => q_Se_compareValue_18 c fU v0 v1 v2 v3 (max (w32 r11) (w32 r12)) 0 S12))
set_option maxHeartbeats 4000000 in
set_option maxRecDepth 100000 in
theorem r_Se_compareValue (l : Launch) (D : jd_T) (g : Nat → Nat) (A : AW) (c : CW) (S : WS) (v0 : Nat) (v1 : Int) (v2 : Nat) (v3 : Int) (r : Int) (S9 : WS) (hv0 : v0 < c.N) (hv2 : v2 < c.N) (hs : s_Se_compareValue c S v0 v1 v2 v3 = some (r, S9)) : jc_C l D y_Se_compareValue b_Se_compareValue 7 (some .int) { frames := 2, cells := 0, slots := 0, locals := 43 } [.ref (A.us v0 0), .int (ii v1), .ref (A.us v2 0), .int (ii v3)] (wtL D g A c S) (fun _ : Unit => (.returned (some (.int (ii r))), True, wtL D g A c S9)) := by
  refine jc_of rfl (Nat.le_of_ble_eq_true rfl) ?_
  intro X hl hR hN ok hnm fin
  subst hl
  have B_18 : ∀ (n18 : Nat), ∀ (v0 : Nat) (v1 : Int) (v2 : Nat) (v3 : Int) (v4 : Int) (v5 : Int) (S : WS), v0 < c.N → v2 < c.N → q_Se_compareValue_18 c n18 v0 v1 v2 v3 v4 v5 S = some (r, S9) → jw X 0 0 (wtL D g A c S) [(0, .ref (A.us v0 0)), (1, .int (ii v1)), (2, .ref (A.us v2 0)), (3, .int (ii v3)), (4, .int (ii v4)), (5, .int (ii v5))] 18 [] := by
    intro n18
    induction n18 with
    | zero =>
      intro v0 v1 v2 v3 v4 v5 S hv0 hv2 hs
      rw [q_Se_compareValue_18] at hs; cases hs
    | succ n18 ih18 =>
      intro v0 v1 v2 v3 v4 v5 S hv0 hv2 hs
      rw [q_Se_compareValue_18] at hs
      refine jr_iload ok 5 d_Se_compareValue_18 rfl ?_
      refine jr_iload ok 4 d_Se_compareValue_20 rfl ?_
      refine jr_wicmp_ge 58 ok rfl rfl d_Se_compareValue_22 (by decide) (fun c7 => ?_) (fun c7 => ?_)
      · replace hs := oq_pos c7 hs
        refine jr_iconst ok d_Se_compareValue_58 ?_
        exact jm_iret (Lf := wtL D g A c) ok fin hs d_Se_compareValue_59
      · replace hs := oq_neg c7 hs
        refine jr_aload_n ok 0 d_Se_compareValue_25 rfl rfl ?_
        refine jr_iload_n ok 1 d_Se_compareValue_26 rfl rfl ?_
        refine jr_iload ok 5 d_Se_compareValue_27 rfl ?_
        obtain ⟨r8, S8, hc8, hs⟩ := mb2_some hs
        refine jq_cV1 ok hR m_Se_55 (r_Se_valueLetter (jx_l X) D g A c S v0 v1 v5 r8 S8 hv0 hc8) (sg_atp (F := serW D A c S) 5 rfl hv0 0 rfl) rfl rfl rfl (Nat.le_of_ble_eq_true rfl) ⟨Nat.le_of_ble_eq_true rfl, Nat.le_of_ble_eq_true rfl⟩ ⟨Nat.zero_le _, Nat.zero_le _⟩ d_Se_compareValue_29 ?_
        show jw X 0 0 (wtL D g A c S8) [(0, .ref (A.us v0 0)), (1, .int (ii v1)), (2, .ref (A.us v2 0)), (3, .int (ii v3)), (4, .int (ii v4)), (5, .int (ii v5))] 32 [.int (ii r8)]
        refine jr_aload_n ok 2 d_Se_compareValue_32 rfl rfl ?_
        refine jr_iload_n ok 3 d_Se_compareValue_33 rfl rfl ?_
        refine jr_iload ok 5 d_Se_compareValue_34 rfl ?_
        obtain ⟨r9, S9, hc9, hs⟩ := mb2_some hs
        refine jq_cV1 ok hR m_Se_55 (r_Se_valueLetter (jx_l X) D g A c S8 v2 v3 v5 r9 S9 hv2 hc9) (sg_atp (F := serW D A c S8) 5 rfl hv2 0 rfl) rfl rfl rfl (Nat.le_of_ble_eq_true rfl) ⟨Nat.le_of_ble_eq_true rfl, Nat.le_of_ble_eq_true rfl⟩ ⟨Nat.zero_le _, Nat.zero_le _⟩ d_Se_compareValue_36 ?_
        show jw X 0 0 (wtL D g A c S9) [(0, .ref (A.us v0 0)), (1, .int (ii v1)), (2, .ref (A.us v2 0)), (3, .int (ii v3)), (4, .int (ii v4)), (5, .int (ii v5))] 39 [.int (ii r9), .int (ii r8)]
        refine jr_mS1 ok hR m_Se_64 (c_IcmpW (jx_l X) D r8 r9) rfl rfl (Nat.le_of_ble_eq_true rfl) ⟨Nat.le_of_ble_eq_true rfl, Nat.le_of_ble_eq_true rfl⟩ ⟨Nat.zero_le _, Nat.zero_le _⟩ d_Se_compareValue_39 ?_
        refine jr_istore [(6, .int (ii (cmpI (w32 r8) (w32 r9)))), (0, .ref (A.us v0 0)), (1, .int (ii v1)), (2, .ref (A.us v2 0)), (3, .int (ii v3)), (4, .int (ii v4)), (5, .int (ii v5))] ok d_Se_compareValue_42 (by rw [hN]; decide) rfl ?_
        refine jr_iload ok 0 d_Se_compareValue_44 rfl ?_
        refine jr_wif_eq 52 ok rfl d_Se_compareValue_46 (by decide) (fun c10 => ?_) (fun c10 => ?_)
        · replace hs := oq_pos c10 hs
          refine jr_iinc [(5, .int (ii (v5 + 1))), (6, .int (ii (cmpI (w32 r8) (w32 r9)))), (0, .ref (A.us v0 0)), (1, .int (ii v1)), (2, .ref (A.us v2 0)), (3, .int (ii v3)), (4, .int (ii v4))] 6 ok d_Se_compareValue_52 rfl (by rw [hN]; decide) rfl ?_
          refine jr_goto 18 ok d_Se_compareValue_55 (by decide) ?_
          exact jr_lv [2, 3, 4, 5, 6, 0] rfl (ih18 v0 v1 v2 v3 v4 (v5 + 1) S9 hv0 hv2 hs)
        · replace hs := oq_neg c10 hs
          refine jr_iload ok 0 d_Se_compareValue_49 rfl ?_
          exact jm_iret (Lf := wtL D g A c) ok fin hs d_Se_compareValue_51
  show jw X 0 0 (wtL D g A c S) [(0, .ref (A.us v0 0)), (1, .int (ii v1)), (2, .ref (A.us v2 0)), (3, .int (ii v3))] 0 []
  rw [s_Se_compareValue] at hs
  refine jr_aload_n ok 0 d_Se_compareValue_0 rfl rfl ?_
  refine jr_iload_n ok 1 d_Se_compareValue_1 rfl rfl ?_
  obtain ⟨r11, S11, hc11, hs⟩ := mb2_some hs
  refine jq_cV1 ok hR m_Se_52 (r_Se_valueLength (jx_l X) D g A c S v0 v1 r11 S11 hv0 hc11) (sg_atp (F := serW D A c S) 5 rfl hv0 0 rfl) rfl rfl rfl (Nat.le_of_ble_eq_true rfl) ⟨Nat.le_of_ble_eq_true rfl, Nat.le_of_ble_eq_true rfl⟩ ⟨Nat.zero_le _, Nat.zero_le _⟩ d_Se_compareValue_2 ?_
  show jw X 0 0 (wtL D g A c S11) [(0, .ref (A.us v0 0)), (1, .int (ii v1)), (2, .ref (A.us v2 0)), (3, .int (ii v3))] 5 [.int (ii r11)]
  refine jr_aload_n ok 2 d_Se_compareValue_5 rfl rfl ?_
  refine jr_iload_n ok 3 d_Se_compareValue_6 rfl rfl ?_
  obtain ⟨r12, S12, hc12, hs⟩ := mb2_some hs
  refine jq_cV1 ok hR m_Se_52 (r_Se_valueLength (jx_l X) D g A c S11 v2 v3 r12 S12 hv2 hc12) (sg_atp (F := serW D A c S11) 5 rfl hv2 0 rfl) rfl rfl rfl (Nat.le_of_ble_eq_true rfl) ⟨Nat.le_of_ble_eq_true rfl, Nat.le_of_ble_eq_true rfl⟩ ⟨Nat.zero_le _, Nat.zero_le _⟩ d_Se_compareValue_7 ?_
  show jw X 0 0 (wtL D g A c S12) [(0, .ref (A.us v0 0)), (1, .int (ii v1)), (2, .ref (A.us v2 0)), (3, .int (ii v3))] 10 [.int (ii r12), .int (ii r11)]
  refine jr_wimax ok w_1067 w_657 w_17 w_658 rfl rfl hR ⟨Nat.le_of_ble_eq_true rfl, Nat.le_of_ble_eq_true rfl⟩ ⟨Nat.zero_le _, Nat.zero_le _⟩ (Nat.le_of_ble_eq_true rfl) d_Se_compareValue_10 ?_
  refine jr_istore [(4, .int (ii (max (w32 r11) (w32 r12)))), (0, .ref (A.us v0 0)), (1, .int (ii v1)), (2, .ref (A.us v2 0)), (3, .int (ii v3))] ok d_Se_compareValue_13 (by rw [hN]; decide) rfl ?_
  refine jr_iconst ok d_Se_compareValue_15 ?_
  refine jr_istore [(5, .int (ii 0)), (4, .int (ii (max (w32 r11) (w32 r12)))), (0, .ref (A.us v0 0)), (1, .int (ii v1)), (2, .ref (A.us v2 0)), (3, .int (ii v3))] ok d_Se_compareValue_16 (by rw [hN]; decide) rfl ?_
  exact jr_lv [2, 3, 4, 5, 1, 0] rfl (B_18 fU v0 v1 v2 v3 (max (w32 r11) (w32 r12)) 0 S12 hv0 hv2 hs)

def q_St_numberOf_30 (c : CW) (k2 : Int → WS → Option (Int × WS)) (v2 : Int) (S : WS) : Option (Int × WS) := k2 (v2 + 1) S

def q_St_numberOf_2 (c : CW) : Nat → Int → WS → Option (Int × WS)
  | 0, _, _ => none
  | n + 1, v2, S => if w32 (c.N : Int) ≤ w32 v2 then some (-1, S) else if ((0 : Int) ≤ v2 ∧ v2 < (c.N : Int)) ∧ c.N ≤ 256 then mb2 (s_Se_isTheOneOf c S v2.toNat) (fun r9 S9 => if w32 r9 = 0 then q_St_numberOf_30 c (q_St_numberOf_2 c n) v2 S9 else some (v2, S9)) else none

def s_St_numberOf (c : CW) (S : WS)  : Option (Int × WS) := q_St_numberOf_2 c fU 0 S
set_option maxHeartbeats 4000000 in
set_option maxRecDepth 100000 in
theorem r_St_numberOf (l : Launch) (D : jd_T) (g : Nat → Nat) (A : AW) (c : CW) (S : WS)  (r : Int) (S9 : WS)  (hs : s_St_numberOf c S  = some (r, S9)) : jc_C l D y_St_numberOf b_St_numberOf 4 (some .int) { frames := 2, cells := 0, slots := 0, locals := 43 } [.ref (g 2), .ref (g 4)] (wtL D g A c S) (fun _ : Unit => (.returned (some (.int (ii r))), True, wtL D g A c S9)) := by
  refine jc_of rfl (Nat.le_of_ble_eq_true rfl) ?_
  intro X hl hR hN ok hnm fin
  subst hl
  have B_2 : ∀ (n2 : Nat), ∀ (v2 : Int) (S : WS), q_St_numberOf_2 c n2 v2 S = some (r, S9) → jw X 0 0 (wtL D g A c S) [(0, .ref (g 2)), (1, .ref (g 4)), (2, .int (ii v2))] 2 [] := by
    intro n2
    induction n2 with
    | zero =>
      intro v2 S hs
      rw [q_St_numberOf_2] at hs; cases hs
    | succ n2 ih2 =>
      have B_30 : ∀ (v2 : Int) (S : WS), q_St_numberOf_30 c (q_St_numberOf_2 c n2) v2 S = some (r, S9) → jw X 0 0 (wtL D g A c S) [(0, .ref (g 2)), (1, .ref (g 4)), (2, .int (ii v2))] 30 [] := by
        intro v2 S hs
        rw [q_St_numberOf_30] at hs
        refine jr_iinc [(2, .int (ii (v2 + 1))), (0, .ref (g 2)), (1, .ref (g 4))] 2 ok d_St_numberOf_30 rfl (by rw [hN]; decide) rfl ?_
        refine jr_goto 2 ok d_St_numberOf_33 (by decide) ?_
        exact jr_lv [1, 2, 0] rfl (ih2 (v2 + 1) S hs)
      intro v2 S hs
      rw [q_St_numberOf_2] at hs
      refine jr_iload_n ok 2 d_St_numberOf_2 rfl rfl ?_
      refine jr_aload_n ok 0 d_St_numberOf_3 rfl rfl ?_
      refine jr_get (v := .int (ii (c.N : Int))) ok 3 f_St_17 rfl rfl d_St_numberOf_4 ?_
      refine jr_wicmp_ge 36 ok rfl rfl d_St_numberOf_7 (by decide) (fun c6 => ?_) (fun c6 => ?_)
      · replace hs := oq_pos c6 hs
        refine jr_iconst ok d_St_numberOf_36 ?_
        exact jm_iret (Lf := wtL D g A c) ok fin hs d_St_numberOf_37
      · replace hs := oq_neg c6 hs
        refine jr_aload_n ok 0 d_St_numberOf_10 rfl rfl ?_
        refine jr_iload_n ok 2 d_St_numberOf_11 rfl rfl ?_
        obtain ⟨hb8, hs⟩ := oq_if hs
        refine jq_cV1 ok hR m_St_21 (r_St_find (jx_l X) D g A c S v2 hb8) (sg_atk 3 rfl) rfl rfl rfl (Nat.le_of_ble_eq_true rfl) ⟨Nat.le_of_ble_eq_true rfl, Nat.le_of_ble_eq_true rfl⟩ ⟨Nat.zero_le _, Nat.zero_le _⟩ d_St_numberOf_12 ?_
        show jw X 0 0 (wtL D g A c S) [(0, .ref (g 2)), (1, .ref (g 4)), (2, .int (ii v2))] 15 [.ref (A.us v2.toNat 0)]
        refine jr_astore_n [(3, .ref (A.us v2.toNat 0)), (0, .ref (g 2)), (1, .ref (g 4)), (2, .int (ii v2))] ok d_St_numberOf_15 rfl (by rw [hN]; decide) rfl ?_
        refine jr_aload_n ok 0 d_St_numberOf_16 rfl rfl ?_
        refine jr_ifnull_r ok d_St_numberOf_17 ?_
        refine jr_aload_n ok 0 d_St_numberOf_20 rfl rfl ?_
        refine jr_aload_n ok 2 d_St_numberOf_21 rfl rfl ?_
        obtain ⟨r9, S9, hc9, hs⟩ := mb2_some hs
        refine jq_cV1 ok hR m_St_25 (r_Se_isTheOneOf (jx_l X) D g A c S v2.toNat r9 S9 (idx_lt hb8.1.1 hb8.1.2) hc9) (sg_atp (F := serW D A c S) 5 rfl (idx_lt hb8.1.1 hb8.1.2) 0 rfl) rfl rfl rfl (Nat.le_of_ble_eq_true rfl) ⟨Nat.le_of_ble_eq_true rfl, Nat.le_of_ble_eq_true rfl⟩ ⟨Nat.zero_le _, Nat.zero_le _⟩ d_St_numberOf_22 ?_
        show jw X 0 0 (wtL D g A c S9) [(3, .ref (A.us v2.toNat 0)), (0, .ref (g 2)), (1, .ref (g 4)), (2, .int (ii v2))] 25 [.int (ii r9)]
        refine jr_wif_eq 30 ok rfl d_St_numberOf_25 (by decide) (fun c10 => ?_) (fun c10 => ?_)
        · replace hs := oq_pos c10 hs
          exact jr_lv [1, 2, 3] rfl (B_30 v2 S9 hs)
        · replace hs := oq_neg c10 hs
          refine jr_iload_n ok 3 d_St_numberOf_28 rfl rfl ?_
          exact jm_iret (Lf := wtL D g A c) ok fin hs d_St_numberOf_29
  show jw X 0 0 (wtL D g A c S) [(0, .ref (g 2)), (1, .ref (g 4))] 0 []
  rw [s_St_numberOf] at hs
  refine jr_iconst ok d_St_numberOf_0 ?_
  refine jr_istore_n [(2, .int (ii 0)), (0, .ref (g 2)), (1, .ref (g 4))] ok d_St_numberOf_1 rfl (by rw [hN]; decide) rfl ?_
  exact jr_lv [1, 2, 0] rfl (B_2 fU 0 S hs)

def q_Ev_matches_82 (c : CW) (v2 : Int) (v5 : Int) (t0 : Int) (S : WS) : Option (Int × WS) := mb2 (s_Pg_get c S (v2 + 2)) (fun r18 S18 => if w32 r18 = 61 then if t0 = 0 ∨ t0 = 1 then some (t0, S18) else none else if w32 r18 = 305 then if w32 t0 = 0 then some (1, S18) else some (0, S18) else if w32 r18 = 306 then if v5 = 0 ∨ v5 = 1 then some (v5, S18) else none else if w32 v5 = 0 then some (1, S18) else some (0, S18))

def q_Ev_matches_81 (c : CW) (v2 : Int) (v5 : Int) (S : WS) : Option (Int × WS) := q_Ev_matches_82 c v2 v5 0 S

def s_Ev_matches (c : CW) (S : WS) (v1 : Nat) (v2 : Int) : Option (Int × WS) := mb2 (s_Pg_get c S v2) (fun r26 S26 => mb2 (s_Pg_get c S26 (v2 + 1)) (fun r27 S27 => mb2 (s_Se_labelNamed c S27 v1 r26 r27) (fun r28 S28 => mb2 (s_Pg_get c S28 (v2 + 4)) (fun r29 S29 => mb2 (s_Pg_get c S29 (v2 + 3)) (fun r30 S30 => mb2 (s_Se_valueBegins c S30 v1 r28 r30 r29) (fun r31 S31 => if w32 r31 = 0 then q_Ev_matches_81 c v2 r31 S31 else mb2 (s_Se_valueLength c S31 v1 r28) (fun r33 S33 => if w32 r33 = w32 r29 then q_Ev_matches_82 c v2 r31 1 S33 else q_Ev_matches_81 c v2 r31 S33)))))))
set_option maxHeartbeats 4000000 in
set_option maxRecDepth 100000 in
theorem r_Ev_matches (l : Launch) (D : jd_T) (g : Nat → Nat) (A : AW) (c : CW) (S : WS) (v1 : Nat) (v2 : Int) (r : Int) (S9 : WS) (hv1 : v1 < c.N) (hs : s_Ev_matches c S v1 v2 = some (r, S9)) : jc_C l D y_Ev_matches b_Ev_matches 7 (some .boolean) { frames := 3, cells := 0, slots := 0, locals := 70 } [.ref (g 17), .ref (A.us v1 0), .int (ii v2)] (wtL D g A c S) (fun _ : Unit => (.returned (some (.int (ii r))), True, wtL D g A c S9)) := by
  refine jc_of rfl (Nat.le_of_ble_eq_true rfl) ?_
  intro X hl hR hN ok hnm fin
  subst hl
  have B_82 : ∀ (v2 : Int) (v5 : Int) (t0 : Int) (S : WS), q_Ev_matches_82 c v2 v5 t0 S = some (r, S9) → jw X 0 0 (wtL D g A c S) [(0, .ref (g 17)), (2, .int (ii v2)), (5, .int (ii v5))] 82 [.int (ii t0)] := by
    intro v2 v5 t0 S hs
    rw [q_Ev_matches_82] at hs
    refine jr_istore [(6, .int (ii t0)), (0, .ref (g 17)), (2, .int (ii v2)), (5, .int (ii v5))] ok d_Ev_matches_82 (by rw [hN]; decide) rfl ?_
    refine jr_aload_n ok 1 d_Ev_matches_84 rfl rfl ?_
    refine jr_get (v := .ref (g 9)) ok 20 f_Ev_29 rfl rfl d_Ev_matches_85 ?_
    refine jr_iload_n ok 2 d_Ev_matches_88 rfl rfl ?_
    refine jr_iconst ok d_Ev_matches_89 ?_
    refine jr_iadd ok d_Ev_matches_90 ?_
    obtain ⟨r18, S18, hc18, hs⟩ := mb2_some hs
    refine jq_cV1 ok hR m_Ev_68 (r_Pg_get (jx_l X) D g A c S (v2 + 2) r18 S18  hc18) (sg_atk 11 rfl) rfl rfl rfl (Nat.le_of_ble_eq_true rfl) ⟨Nat.le_of_ble_eq_true rfl, Nat.le_of_ble_eq_true rfl⟩ ⟨Nat.zero_le _, Nat.zero_le _⟩ d_Ev_matches_91 ?_
    show jw X 0 0 (wtL D g A c S18) [(6, .int (ii t0)), (0, .ref (g 17)), (2, .int (ii v2)), (5, .int (ii v5))] 94 [.int (ii r18)]
    by_cases c19 : w32 r18 = 61
    · replace hs := oq_pos c19 hs
      refine jr_wlook (off := 34) 128 c19 ok d_Ev_matches_94 (by decide) (by decide) (by decide) ?_
      refine jr_iload ok 0 d_Ev_matches_128 rfl ?_
      obtain ⟨hb20, hs⟩ := oq_if hs
      exact jm_zret (Lf := wtL D g A c) ok (nz_b hb20) fin hs d_Ev_matches_130
    · replace hs := oq_neg c19 hs
      by_cases c21 : w32 r18 = 305
      · replace hs := oq_pos c21 hs
        refine jr_wlook (off := 37) 131 c21 ok d_Ev_matches_94 (by decide) (by decide) (by decide) ?_
        refine jr_iload ok 0 d_Ev_matches_131 rfl ?_
        refine jr_wif_ne 140 ok rfl d_Ev_matches_133 (by decide) (fun c22 => ?_) (fun c22 => ?_)
        · replace hs := oq_neg c22 hs
          refine jr_iconst ok d_Ev_matches_140 ?_
          exact jm_zret (Lf := wtL D g A c) ok (by decide +kernel) fin hs d_Ev_matches_141
        · replace hs := oq_pos c22 hs
          refine jr_iconst ok d_Ev_matches_136 ?_
          refine jr_goto 141 ok d_Ev_matches_137 (by decide) ?_
          exact jm_zret (Lf := wtL D g A c) ok (by decide +kernel) fin hs d_Ev_matches_141
      · replace hs := oq_neg c21 hs
        by_cases c23 : w32 r18 = 306
        · replace hs := oq_pos c23 hs
          refine jr_wlook (off := 48) 142 c23 ok d_Ev_matches_94 (by decide) (by decide) (by decide) ?_
          refine jr_iload ok 3 d_Ev_matches_142 rfl ?_
          obtain ⟨hb24, hs⟩ := oq_if hs
          exact jm_zret (Lf := wtL D g A c) ok (nz_b hb24) fin hs d_Ev_matches_144
        · replace hs := oq_neg c23 hs
          refine jr_wlook (off := 51) 145 rfl ok d_Ev_matches_94 (by decide) (by simp [Op.lookupswitch.offset, Ne.symm c19, Ne.symm c21, Ne.symm c23] <;> rfl) (by decide) ?_
          refine jr_iload ok 3 d_Ev_matches_145 rfl ?_
          refine jr_wif_ne 154 ok rfl d_Ev_matches_147 (by decide) (fun c25 => ?_) (fun c25 => ?_)
          · replace hs := oq_neg c25 hs
            refine jr_iconst ok d_Ev_matches_154 ?_
            exact jm_zret (Lf := wtL D g A c) ok (by decide +kernel) fin hs d_Ev_matches_155
          · replace hs := oq_pos c25 hs
            refine jr_iconst ok d_Ev_matches_150 ?_
            refine jr_goto 155 ok d_Ev_matches_151 (by decide) ?_
            exact jm_zret (Lf := wtL D g A c) ok (by decide +kernel) fin hs d_Ev_matches_155
  have B_81 : ∀ (v2 : Int) (v5 : Int) (S : WS), q_Ev_matches_81 c v2 v5 S = some (r, S9) → jw X 0 0 (wtL D g A c S) [(0, .ref (g 17)), (2, .int (ii v2)), (5, .int (ii v5))] 81 [] := by
    intro v2 v5 S hs
    rw [q_Ev_matches_81] at hs
    refine jr_iconst ok d_Ev_matches_81 ?_
    exact jr_lv [0, 1, 2] rfl (B_82 v2 v5 0 S hs)
  show jw X 0 0 (wtL D g A c S) [(0, .ref (g 17)), (1, .ref (A.us v1 0)), (2, .int (ii v2))] 0 []
  rw [s_Ev_matches] at hs
  refine jr_aload_n ok 1 d_Ev_matches_0 rfl rfl ?_
  refine jr_aload_n ok 0 d_Ev_matches_1 rfl rfl ?_
  refine jr_get (v := .ref (g 1)) ok 20 f_Ev_21 rfl rfl d_Ev_matches_2 ?_
  refine jr_aload_n ok 0 d_Ev_matches_5 rfl rfl ?_
  refine jr_get (v := .ref (g 9)) ok 20 f_Ev_29 rfl rfl d_Ev_matches_6 ?_
  refine jr_iload_n ok 2 d_Ev_matches_9 rfl rfl ?_
  obtain ⟨r26, S26, hc26, hs⟩ := mb2_some hs
  refine jq_cV1 ok hR m_Ev_68 (r_Pg_get (jx_l X) D g A c S v2 r26 S26  hc26) (sg_atk 11 rfl) rfl rfl rfl (Nat.le_of_ble_eq_true rfl) ⟨Nat.le_of_ble_eq_true rfl, Nat.le_of_ble_eq_true rfl⟩ ⟨Nat.zero_le _, Nat.zero_le _⟩ d_Ev_matches_10 ?_
  show jw X 0 0 (wtL D g A c S26) [(0, .ref (g 17)), (1, .ref (A.us v1 0)), (2, .int (ii v2))] 13 [.int (ii r26), .ref (g 1), .ref (A.us v1 0)]
  refine jr_aload_n ok 0 d_Ev_matches_13 rfl rfl ?_
  refine jr_get (v := .ref (g 9)) ok 20 f_Ev_29 rfl rfl d_Ev_matches_14 ?_
  refine jr_iload_n ok 2 d_Ev_matches_17 rfl rfl ?_
  refine jr_iconst ok d_Ev_matches_18 ?_
  refine jr_iadd ok d_Ev_matches_19 ?_
  obtain ⟨r27, S27, hc27, hs⟩ := mb2_some hs
  refine jq_cV1 ok hR m_Ev_68 (r_Pg_get (jx_l X) D g A c S26 (v2 + 1) r27 S27  hc27) (sg_atk 11 rfl) rfl rfl rfl (Nat.le_of_ble_eq_true rfl) ⟨Nat.le_of_ble_eq_true rfl, Nat.le_of_ble_eq_true rfl⟩ ⟨Nat.zero_le _, Nat.zero_le _⟩ d_Ev_matches_20 ?_
  show jw X 0 0 (wtL D g A c S27) [(0, .ref (g 17)), (1, .ref (A.us v1 0)), (2, .int (ii v2))] 23 [.int (ii r27), .int (ii r26), .ref (g 1), .ref (A.us v1 0)]
  obtain ⟨r28, S28, hc28, hs⟩ := mb2_some hs
  refine jq_cV1 ok hR m_Ev_184 (r_Se_labelNamed (jx_l X) D g A c S27 v1 r26 r27 r28 S28 hv1 hc28) (sg_atp (F := serW D A c S27) 5 rfl hv1 0 rfl) rfl rfl rfl (Nat.le_of_ble_eq_true rfl) ⟨Nat.le_of_ble_eq_true rfl, Nat.le_of_ble_eq_true rfl⟩ ⟨Nat.zero_le _, Nat.zero_le _⟩ d_Ev_matches_23 ?_
  show jw X 0 0 (wtL D g A c S28) [(0, .ref (g 17)), (1, .ref (A.us v1 0)), (2, .int (ii v2))] 26 [.int (ii r28)]
  refine jr_istore_n [(3, .int (ii r28)), (0, .ref (g 17)), (1, .ref (A.us v1 0)), (2, .int (ii v2))] ok d_Ev_matches_26 rfl (by rw [hN]; decide) rfl ?_
  refine jr_aload_n ok 1 d_Ev_matches_27 rfl rfl ?_
  refine jr_get (v := .ref (g 9)) ok 20 f_Ev_29 rfl rfl d_Ev_matches_28 ?_
  refine jr_iload_n ok 3 d_Ev_matches_31 rfl rfl ?_
  refine jr_iconst ok d_Ev_matches_32 ?_
  refine jr_iadd ok d_Ev_matches_33 ?_
  obtain ⟨r29, S29, hc29, hs⟩ := mb2_some hs
  refine jq_cV1 ok hR m_Ev_68 (r_Pg_get (jx_l X) D g A c S28 (v2 + 4) r29 S29  hc29) (sg_atk 11 rfl) rfl rfl rfl (Nat.le_of_ble_eq_true rfl) ⟨Nat.le_of_ble_eq_true rfl, Nat.le_of_ble_eq_true rfl⟩ ⟨Nat.zero_le _, Nat.zero_le _⟩ d_Ev_matches_34 ?_
  show jw X 0 0 (wtL D g A c S29) [(3, .int (ii r28)), (0, .ref (g 17)), (1, .ref (A.us v1 0)), (2, .int (ii v2))] 37 [.int (ii r29)]
  refine jr_istore [(4, .int (ii r29)), (3, .int (ii r28)), (0, .ref (g 17)), (1, .ref (A.us v1 0)), (2, .int (ii v2))] ok d_Ev_matches_37 (by rw [hN]; decide) rfl ?_
  refine jr_aload_n ok 3 d_Ev_matches_39 rfl rfl ?_
  refine jr_iload_n ok 1 d_Ev_matches_40 rfl rfl ?_
  refine jr_aload_n ok 2 d_Ev_matches_41 rfl rfl ?_
  refine jr_get (v := .ref (g 1)) ok 20 f_Ev_21 rfl rfl d_Ev_matches_42 ?_
  refine jr_aload_n ok 2 d_Ev_matches_45 rfl rfl ?_
  refine jr_get (v := .ref (g 9)) ok 20 f_Ev_29 rfl rfl d_Ev_matches_46 ?_
  refine jr_iload_n ok 4 d_Ev_matches_49 rfl rfl ?_
  refine jr_iconst ok d_Ev_matches_50 ?_
  refine jr_iadd ok d_Ev_matches_51 ?_
  obtain ⟨r30, S30, hc30, hs⟩ := mb2_some hs
  refine jq_cV1 ok hR m_Ev_68 (r_Pg_get (jx_l X) D g A c S29 (v2 + 3) r30 S30  hc30) (sg_atk 11 rfl) rfl rfl rfl (Nat.le_of_ble_eq_true rfl) ⟨Nat.le_of_ble_eq_true rfl, Nat.le_of_ble_eq_true rfl⟩ ⟨Nat.zero_le _, Nat.zero_le _⟩ d_Ev_matches_52 ?_
  show jw X 0 0 (wtL D g A c S30) [(4, .int (ii r29)), (3, .int (ii r28)), (0, .ref (g 17)), (1, .ref (A.us v1 0)), (2, .int (ii v2))] 55 [.int (ii r30), .ref (g 1), .int (ii r28), .ref (A.us v1 0)]
  refine jr_iload ok 0 d_Ev_matches_55 rfl ?_
  obtain ⟨r31, S31, hc31, hs⟩ := mb2_some hs
  refine jq_cV1 ok hR m_Ev_188 (r_Se_valueBegins (jx_l X) D g A c S30 v1 r28 r30 r29 r31 S31 hv1 hc31) (sg_atp (F := serW D A c S30) 5 rfl hv1 0 rfl) rfl rfl rfl (Nat.le_of_ble_eq_true rfl) ⟨Nat.le_of_ble_eq_true rfl, Nat.le_of_ble_eq_true rfl⟩ ⟨Nat.zero_le _, Nat.zero_le _⟩ d_Ev_matches_57 ?_
  show jw X 0 0 (wtL D g A c S31) [(4, .int (ii r29)), (3, .int (ii r28)), (0, .ref (g 17)), (1, .ref (A.us v1 0)), (2, .int (ii v2))] 60 [.int (ii r31)]
  refine jr_istore [(5, .int (ii r31)), (4, .int (ii r29)), (3, .int (ii r28)), (0, .ref (g 17)), (1, .ref (A.us v1 0)), (2, .int (ii v2))] ok d_Ev_matches_60 (by rw [hN]; decide) rfl ?_
  refine jr_iload ok 0 d_Ev_matches_62 rfl ?_
  refine jr_wif_eq 81 ok rfl d_Ev_matches_64 (by decide) (fun c32 => ?_) (fun c32 => ?_)
  · replace hs := oq_pos c32 hs
    exact jr_lv [3, 5, 0] rfl (B_81 v2 r31 S31 hs)
  · replace hs := oq_neg c32 hs
    refine jr_aload_n ok 4 d_Ev_matches_67 rfl rfl ?_
    refine jr_iload_n ok 2 d_Ev_matches_68 rfl rfl ?_
    obtain ⟨r33, S33, hc33, hs⟩ := mb2_some hs
    refine jq_cV1 ok hR m_Ev_192 (r_Se_valueLength (jx_l X) D g A c S31 v1 r28 r33 S33 hv1 hc33) (sg_atp (F := serW D A c S31) 5 rfl hv1 0 rfl) rfl rfl rfl (Nat.le_of_ble_eq_true rfl) ⟨Nat.le_of_ble_eq_true rfl, Nat.le_of_ble_eq_true rfl⟩ ⟨Nat.zero_le _, Nat.zero_le _⟩ d_Ev_matches_69 ?_
    show jw X 0 0 (wtL D g A c S33) [(5, .int (ii r31)), (4, .int (ii r29)), (3, .int (ii r28)), (0, .ref (g 17)), (1, .ref (A.us v1 0)), (2, .int (ii v2))] 72 [.int (ii r33)]
    refine jr_iload ok 1 d_Ev_matches_72 rfl ?_
    refine jr_wicmp_ne 81 ok rfl rfl d_Ev_matches_74 (by decide) (fun c34 => ?_) (fun c34 => ?_)
    · replace hs := oq_neg c34 hs
      exact jr_lv [3, 5, 0] rfl (B_81 v2 r31 S33 hs)
    · replace hs := oq_pos c34 hs
      refine jr_iconst ok d_Ev_matches_77 ?_
      refine jr_goto 82 ok d_Ev_matches_78 (by decide) ?_
      exact jr_lv [3, 5, 0] rfl (B_82 v2 r31 1 S33 hs)

def s_QR_takeComma (c : CW) (S : WS)  : Option (Int × WS) := mb2 (s_Lx_kind c S ) (fun r4 S4 => if w32 r4 = 44 then mb2 (s_Lx_advance c S4 ) (fun r6 S6 => some (1, S6)) else some (0, S4))
set_option maxHeartbeats 4000000 in
set_option maxRecDepth 100000 in
theorem r_QR_takeComma (l : Launch) (D : jd_T) (g : Nat → Nat) (A : AW) (c : CW) (S : WS)  (r : Int) (S9 : WS)  (hs : s_QR_takeComma c S  = some (r, S9)) : jc_C l D y_QR_takeComma b_QR_takeComma 1 (some .boolean) { frames := 3, cells := 0, slots := 0, locals := 65 } [.ref (g 10)] (wtL D g A c S) (fun _ : Unit => (.returned (some (.int (ii r))), True, wtL D g A c S9)) := by
  refine jc_of rfl (Nat.le_of_ble_eq_true rfl) ?_
  intro X hl hR hN ok hnm fin
  subst hl
  show jw X 0 0 (wtL D g A c S) [(0, .ref (g 10))] 0 []
  rw [s_QR_takeComma] at hs
  refine jr_aload_n ok 0 d_QR_takeComma_0 rfl rfl ?_
  refine jr_get (v := .ref (g 11)) ok 13 f_QR_24 rfl rfl d_QR_takeComma_1 ?_
  obtain ⟨r4, S4, hc4, hs⟩ := mb2_some hs
  refine jq_cV1 ok hR m_QR_53 (r_Lx_kind (jx_l X) D g A c S  r4 S4  hc4) (sg_atk 14 rfl) rfl rfl rfl (Nat.le_of_ble_eq_true rfl) ⟨Nat.le_of_ble_eq_true rfl, Nat.le_of_ble_eq_true rfl⟩ ⟨Nat.zero_le _, Nat.zero_le _⟩ d_QR_takeComma_4 ?_
  show jw X 0 0 (wtL D g A c S4) [(0, .ref (g 10))] 7 [.int (ii r4)]
  refine jr_bipush ok d_QR_takeComma_7 (by decide +kernel) ?_
  refine jr_wicmp_eq 14 ok rfl (show w32 44 = 44 by decide) d_QR_takeComma_9 (by decide) (fun c5 => ?_) (fun c5 => ?_)
  · replace hs := oq_pos c5 hs
    refine jr_aload_n ok 0 d_QR_takeComma_14 rfl rfl ?_
    refine jr_get (v := .ref (g 11)) ok 13 f_QR_24 rfl rfl d_QR_takeComma_15 ?_
    obtain ⟨r6, S6, hc6, hs⟩ := mb2_some hs
    refine jq_cV0 ok hR m_QR_67 (r_Lx_advance (jx_l X) D g A c S4  r6 S6  hc6) (sg_atk 14 rfl) rfl rfl rfl (Nat.le_of_ble_eq_true rfl) ⟨Nat.le_of_ble_eq_true rfl, Nat.le_of_ble_eq_true rfl⟩ ⟨Nat.zero_le _, Nat.zero_le _⟩ d_QR_takeComma_18 ?_
    show jw X 0 0 (wtL D g A c S6) [(0, .ref (g 10))] 21 []
    refine jr_iconst ok d_QR_takeComma_21 ?_
    exact jm_zret (Lf := wtL D g A c) ok (by decide +kernel) fin hs d_QR_takeComma_22
  · replace hs := oq_neg c5 hs
    refine jr_iconst ok d_QR_takeComma_12 ?_
    exact jm_zret (Lf := wtL D g A c) ok (by decide +kernel) fin hs d_QR_takeComma_13

def q_LR_readLabel_21 (c : CW) (v3 : Int) (S : WS) : Option (Int × WS) := mb2 (s_LR_refuse c S 7 v3) (fun r13 S13 => some (r13, S13))

def s_LR_readLabel (c : CW) (S : WS) (v2 : Int) : Option (Int × WS) := mb2 (s_LR_wordEnd c S v2) (fun r14 S14 => if w32 r14 = w32 v2 then q_LR_readLabel_21 c r14 S14 else mb2 (s_Tp_byteAt c S14 r14) (fun r16 S16 => if w32 r16 = 61 then mb2 (s_LR_placeFor c S16 v2 r14) (fun r18 S18 => if w32 r18 = (-1) then mb2 (s_LR_refuse c S18 8 v2) (fun r24 S24 => some (r24, S24)) else mb2 (s_LR_wordEnd c S18 (r14 + 1)) (fun r20 S20 => if w32 r20 = w32 (r14 + 1) then mb2 (s_LR_refuse c S20 7 r20) (fun r23 S23 => some (r23, S23)) else mb2 (s_LR_insert c S20 r18 v2 r14 r20) (fun r22 S22 => some (r20, S22)))) else q_LR_readLabel_21 c r14 S16))
set_option maxHeartbeats 4000000 in
set_option maxRecDepth 100000 in
theorem r_LR_readLabel (l : Launch) (D : jd_T) (g : Nat → Nat) (A : AW) (c : CW) (S : WS) (v2 : Int) (r : Int) (S9 : WS)  (hs : s_LR_readLabel c S v2 = some (r, S9)) : jc_C l D y_LR_readLabel b_LR_readLabel 6 (some .int) { frames := 3, cells := 0, slots := 0, locals := 74 } [.ref (g 4), .ref (g 1), .int (ii v2)] (wtL D g A c S) (fun _ : Unit => (.returned (some (.int (ii r))), True, wtL D g A c S9)) := by
  refine jc_of rfl (Nat.le_of_ble_eq_true rfl) ?_
  intro X hl hR hN ok hnm fin
  subst hl
  have B_21 : ∀ (v3 : Int) (S : WS), q_LR_readLabel_21 c v3 S = some (r, S9) → jw X 0 0 (wtL D g A c S) [(0, .ref (g 4)), (3, .int (ii v3))] 21 [] := by
    intro v3 S hs
    rw [q_LR_readLabel_21] at hs
    refine jr_aload_n ok 0 d_LR_readLabel_21 rfl rfl ?_
    refine jr_bipush ok d_LR_readLabel_22 (by decide +kernel) ?_
    refine jr_iload_n ok 1 d_LR_readLabel_24 rfl rfl ?_
    obtain ⟨r13, S13, hc13, hs⟩ := mb2_some hs
    refine jq_cV1 ok hR m_LR_56 (r_LR_refuse (jx_l X) D g A c S 7 v3 r13 S13  hc13) (sg_atk 6 rfl) rfl rfl rfl (Nat.le_of_ble_eq_true rfl) ⟨Nat.le_of_ble_eq_true rfl, Nat.le_of_ble_eq_true rfl⟩ ⟨Nat.zero_le _, Nat.zero_le _⟩ d_LR_readLabel_25 ?_
    show jw X 0 0 (wtL D g A c S13) [(0, .ref (g 4)), (3, .int (ii v3))] 28 [.int (ii r13)]
    exact jm_iret (Lf := wtL D g A c) ok fin hs d_LR_readLabel_28
  show jw X 0 0 (wtL D g A c S) [(0, .ref (g 4)), (1, .ref (g 1)), (2, .int (ii v2))] 0 []
  rw [s_LR_readLabel] at hs
  refine jr_aload_n ok 1 d_LR_readLabel_0 rfl rfl ?_
  refine jr_iload_n ok 2 d_LR_readLabel_1 rfl rfl ?_
  obtain ⟨r14, S14, hc14, hs⟩ := mb2_some hs
  refine jq_cS1 ok hR m_LR_60 (r_LR_wordEnd (jx_l X) D g A c S v2 r14 S14  hc14) rfl rfl (Nat.le_of_ble_eq_true rfl) ⟨Nat.le_of_ble_eq_true rfl, Nat.le_of_ble_eq_true rfl⟩ ⟨Nat.zero_le _, Nat.zero_le _⟩ d_LR_readLabel_2 ?_
  show jw X 0 0 (wtL D g A c S14) [(0, .ref (g 4)), (1, .ref (g 1)), (2, .int (ii v2))] 5 [.int (ii r14)]
  refine jr_istore_n [(3, .int (ii r14)), (0, .ref (g 4)), (1, .ref (g 1)), (2, .int (ii v2))] ok d_LR_readLabel_5 rfl (by rw [hN]; decide) rfl ?_
  refine jr_iload_n ok 0 d_LR_readLabel_6 rfl rfl ?_
  refine jr_iload_n ok 3 d_LR_readLabel_7 rfl rfl ?_
  refine jr_wicmp_eq 21 ok rfl rfl d_LR_readLabel_8 (by decide) (fun c15 => ?_) (fun c15 => ?_)
  · replace hs := oq_pos c15 hs
    exact jr_lv [1, 0] rfl (B_21 r14 S14 hs)
  · replace hs := oq_neg c15 hs
    refine jr_aload_n ok 2 d_LR_readLabel_11 rfl rfl ?_
    refine jr_iload_n ok 0 d_LR_readLabel_12 rfl rfl ?_
    obtain ⟨r16, S16, hc16, hs⟩ := mb2_some hs
    refine jq_cV1 ok hR m_LR_52 (r_Tp_byteAt (jx_l X) D g A c S14 r14 r16 S16  hc16) (sg_atk 1 rfl) rfl rfl rfl (Nat.le_of_ble_eq_true rfl) ⟨Nat.le_of_ble_eq_true rfl, Nat.le_of_ble_eq_true rfl⟩ ⟨Nat.zero_le _, Nat.zero_le _⟩ d_LR_readLabel_13 ?_
    show jw X 0 0 (wtL D g A c S16) [(3, .int (ii r14)), (0, .ref (g 4)), (1, .ref (g 1)), (2, .int (ii v2))] 16 [.int (ii r16)]
    refine jr_bipush ok d_LR_readLabel_16 (by decide +kernel) ?_
    refine jr_wicmp_eq 29 ok rfl (show w32 61 = 61 by decide) d_LR_readLabel_18 (by decide) (fun c17 => ?_) (fun c17 => ?_)
    · replace hs := oq_pos c17 hs
      refine jr_aload_n ok 1 d_LR_readLabel_29 rfl rfl ?_
      refine jr_aload_n ok 2 d_LR_readLabel_30 rfl rfl ?_
      refine jr_iload_n ok 3 d_LR_readLabel_31 rfl rfl ?_
      refine jr_iload_n ok 0 d_LR_readLabel_32 rfl rfl ?_
      obtain ⟨r18, S18, hc18, hs⟩ := mb2_some hs
      refine jq_cV1 ok hR m_LR_63 (r_LR_placeFor (jx_l X) D g A c S16 v2 r14 r18 S18  hc18) (sg_atk 6 rfl) rfl rfl rfl (Nat.le_of_ble_eq_true rfl) ⟨Nat.le_of_ble_eq_true rfl, Nat.le_of_ble_eq_true rfl⟩ ⟨Nat.zero_le _, Nat.zero_le _⟩ d_LR_readLabel_33 ?_
      show jw X 0 0 (wtL D g A c S18) [(3, .int (ii r14)), (0, .ref (g 4)), (1, .ref (g 1)), (2, .int (ii v2))] 36 [.int (ii r18)]
      refine jr_istore [(4, .int (ii r18)), (3, .int (ii r14)), (0, .ref (g 4)), (1, .ref (g 1)), (2, .int (ii v2))] ok d_LR_readLabel_36 (by rw [hN]; decide) rfl ?_
      refine jr_iload ok 0 d_LR_readLabel_38 rfl ?_
      refine jr_iconst ok d_LR_readLabel_40 ?_
      refine jr_wicmp_ne 52 ok rfl (show w32 (-1) = (-1) by decide) d_LR_readLabel_41 (by decide) (fun c19 => ?_) (fun c19 => ?_)
      · replace hs := oq_neg c19 hs
        refine jr_aload_n ok 3 d_LR_readLabel_52 rfl rfl ?_
        refine jr_iload_n ok 1 d_LR_readLabel_53 rfl rfl ?_
        refine jr_iconst ok d_LR_readLabel_54 ?_
        refine jr_iadd ok d_LR_readLabel_55 ?_
        obtain ⟨r20, S20, hc20, hs⟩ := mb2_some hs
        refine jq_cS1 ok hR m_LR_60 (r_LR_wordEnd (jx_l X) D g A c S18 (r14 + 1) r20 S20  hc20) rfl rfl (Nat.le_of_ble_eq_true rfl) ⟨Nat.le_of_ble_eq_true rfl, Nat.le_of_ble_eq_true rfl⟩ ⟨Nat.zero_le _, Nat.zero_le _⟩ d_LR_readLabel_56 ?_
        show jw X 0 0 (wtL D g A c S20) [(4, .int (ii r18)), (3, .int (ii r14)), (0, .ref (g 4)), (1, .ref (g 1)), (2, .int (ii v2))] 59 [.int (ii r20)]
        refine jr_istore [(5, .int (ii r20)), (4, .int (ii r18)), (3, .int (ii r14)), (0, .ref (g 4)), (1, .ref (g 1)), (2, .int (ii v2))] ok d_LR_readLabel_59 (by rw [hN]; decide) rfl ?_
        refine jr_iload ok 0 d_LR_readLabel_61 rfl ?_
        refine jr_iload_n ok 2 d_LR_readLabel_63 rfl rfl ?_
        refine jr_iconst ok d_LR_readLabel_64 ?_
        refine jr_iadd ok d_LR_readLabel_65 ?_
        refine jr_wicmp_ne 78 ok rfl rfl d_LR_readLabel_66 (by decide) (fun c21 => ?_) (fun c21 => ?_)
        · replace hs := oq_neg c21 hs
          refine jr_aload_n ok 3 d_LR_readLabel_78 rfl rfl ?_
          refine jr_iload ok 1 d_LR_readLabel_79 rfl ?_
          refine jr_iload_n ok 5 d_LR_readLabel_81 rfl rfl ?_
          refine jr_iload_n ok 2 d_LR_readLabel_82 rfl rfl ?_
          refine jr_iload ok 0 d_LR_readLabel_83 rfl ?_
          obtain ⟨r22, S22, hc22, hs⟩ := mb2_some hs
          refine jq_cV0 ok hR m_LR_67 (r_LR_insert (jx_l X) D g A c S20 r18 v2 r14 r20 r22 S22  hc22) (sg_atk 6 rfl) rfl rfl rfl (Nat.le_of_ble_eq_true rfl) ⟨Nat.le_of_ble_eq_true rfl, Nat.le_of_ble_eq_true rfl⟩ ⟨Nat.zero_le _, Nat.zero_le _⟩ d_LR_readLabel_85 ?_
          show jw X 0 0 (wtL D g A c S22) [(5, .int (ii r20)), (4, .int (ii r18)), (3, .int (ii r14)), (0, .ref (g 4)), (1, .ref (g 1)), (2, .int (ii v2))] 88 []
          refine jr_iload ok 0 d_LR_readLabel_88 rfl ?_
          exact jm_iret (Lf := wtL D g A c) ok fin hs d_LR_readLabel_90
        · replace hs := oq_pos c21 hs
          refine jr_aload_n ok 3 d_LR_readLabel_69 rfl rfl ?_
          refine jr_bipush ok d_LR_readLabel_70 (by decide +kernel) ?_
          refine jr_iload ok 0 d_LR_readLabel_72 rfl ?_
          obtain ⟨r23, S23, hc23, hs⟩ := mb2_some hs
          refine jq_cV1 ok hR m_LR_56 (r_LR_refuse (jx_l X) D g A c S20 7 r20 r23 S23  hc23) (sg_atk 6 rfl) rfl rfl rfl (Nat.le_of_ble_eq_true rfl) ⟨Nat.le_of_ble_eq_true rfl, Nat.le_of_ble_eq_true rfl⟩ ⟨Nat.zero_le _, Nat.zero_le _⟩ d_LR_readLabel_74 ?_
          show jw X 0 0 (wtL D g A c S23) [(5, .int (ii r20)), (4, .int (ii r18)), (3, .int (ii r14)), (0, .ref (g 4)), (1, .ref (g 1)), (2, .int (ii v2))] 77 [.int (ii r23)]
          exact jm_iret (Lf := wtL D g A c) ok fin hs d_LR_readLabel_77
      · replace hs := oq_pos c19 hs
        refine jr_aload_n ok 2 d_LR_readLabel_44 rfl rfl ?_
        refine jr_bipush ok d_LR_readLabel_45 (by decide +kernel) ?_
        refine jr_iload_n ok 4 d_LR_readLabel_47 rfl rfl ?_
        obtain ⟨r24, S24, hc24, hs⟩ := mb2_some hs
        refine jq_cV1 ok hR m_LR_56 (r_LR_refuse (jx_l X) D g A c S18 8 v2 r24 S24  hc24) (sg_atk 6 rfl) rfl rfl rfl (Nat.le_of_ble_eq_true rfl) ⟨Nat.le_of_ble_eq_true rfl, Nat.le_of_ble_eq_true rfl⟩ ⟨Nat.zero_le _, Nat.zero_le _⟩ d_LR_readLabel_48 ?_
        show jw X 0 0 (wtL D g A c S24) [(4, .int (ii r18)), (3, .int (ii r14)), (0, .ref (g 4)), (1, .ref (g 1)), (2, .int (ii v2))] 51 [.int (ii r24)]
        exact jm_iret (Lf := wtL D g A c) ok fin hs d_LR_readLabel_51
    · replace hs := oq_neg c17 hs
      exact jr_lv [1, 0] rfl (B_21 r14 S16 hs)

def s_Lx_start (c : CW) (S : WS)  : Option (Unit × WS) := mb2 (s_Lx_advance c (WS.w_lx_behind S 0) ) (fun r2 S2 => some ((), S2))
set_option maxHeartbeats 4000000 in
set_option maxRecDepth 100000 in
theorem r_Lx_start (l : Launch) (D : jd_T) (g : Nat → Nat) (A : AW) (c : CW) (S : WS)  (r : Unit) (S9 : WS)  (hs : s_Lx_start c S  = some (r, S9)) : jc_C l D y_Lx_start b_Lx_start 1 none { frames := 3, cells := 0, slots := 0, locals := 65 } [.ref (g 11)] (wtL D g A c S) (fun _ : Unit => (.returned (none), True, wtL D g A c S9)) := by
  refine jc_of rfl (Nat.le_of_ble_eq_true rfl) ?_
  intro X hl hR hN ok hnm fin
  subst hl
  show jw X 0 0 (wtL D g A c S) [(0, .ref (g 11))] 0 []
  rw [s_Lx_start] at hs
  refine jr_aload_n ok 0 d_Lx_start_0 rfl rfl ?_
  refine jr_iconst ok d_Lx_start_1 ?_
  refine jr_put (wtL D g A c (WS.w_lx_behind S 0)) ok 14 f_Lx_22 rfl rfl rfl (Nat.le_of_ble_eq_true rfl) rfl d_Lx_start_2 ?_
  refine jr_aload_n ok 0 d_Lx_start_5 rfl rfl ?_
  obtain ⟨r2, S2, hc2, hs⟩ := mb2_some hs
  refine jq_cV0 ok hR m_Lx_29 (r_Lx_advance (jx_l X) D g A c (WS.w_lx_behind S 0)  r2 S2  hc2) (sg_atk 14 rfl) rfl rfl rfl (Nat.le_of_ble_eq_true rfl) ⟨Nat.le_of_ble_eq_true rfl, Nat.le_of_ble_eq_true rfl⟩ ⟨Nat.zero_le _, Nat.zero_le _⟩ d_Lx_start_6 ?_
  show jw X 0 0 (wtL D g A c S2) [(0, .ref (g 11))] 9 []
  exact jm_vret (Lf := wtL D g A c) ok fin hs d_Lx_start_9

def s_QR_take (c : CW) (S : WS) (v1 : Int) : Option (Unit × WS) := mb2 (s_Lx_kind c S ) (fun r5 S5 => if w32 r5 = w32 v1 then mb2 (s_Lx_advance c S5 ) (fun r8 S8 => some ((), S8)) else mb2 (s_QR_refuse c S5 2) (fun r7 S7 => some ((), S7)))
set_option maxHeartbeats 4000000 in
set_option maxRecDepth 100000 in
theorem r_QR_take (l : Launch) (D : jd_T) (g : Nat → Nat) (A : AW) (c : CW) (S : WS) (v1 : Int) (r : Unit) (S9 : WS)  (hs : s_QR_take c S v1 = some (r, S9)) : jc_C l D y_QR_take b_QR_take 2 none { frames := 3, cells := 0, slots := 0, locals := 65 } [.ref (g 10), .int (ii v1)] (wtL D g A c S) (fun _ : Unit => (.returned (none), True, wtL D g A c S9)) := by
  refine jc_of rfl (Nat.le_of_ble_eq_true rfl) ?_
  intro X hl hR hN ok hnm fin
  subst hl
  show jw X 0 0 (wtL D g A c S) [(0, .ref (g 10)), (1, .int (ii v1))] 0 []
  rw [s_QR_take] at hs
  refine jr_aload_n ok 0 d_QR_take_0 rfl rfl ?_
  refine jr_get (v := .ref (g 11)) ok 13 f_QR_24 rfl rfl d_QR_take_1 ?_
  obtain ⟨r5, S5, hc5, hs⟩ := mb2_some hs
  refine jq_cV1 ok hR m_QR_53 (r_Lx_kind (jx_l X) D g A c S  r5 S5  hc5) (sg_atk 14 rfl) rfl rfl rfl (Nat.le_of_ble_eq_true rfl) ⟨Nat.le_of_ble_eq_true rfl, Nat.le_of_ble_eq_true rfl⟩ ⟨Nat.zero_le _, Nat.zero_le _⟩ d_QR_take_4 ?_
  show jw X 0 0 (wtL D g A c S5) [(0, .ref (g 10)), (1, .int (ii v1))] 7 [.int (ii r5)]
  refine jr_iload_n ok 1 d_QR_take_7 rfl rfl ?_
  refine jr_wicmp_ne 21 ok rfl rfl d_QR_take_8 (by decide) (fun c6 => ?_) (fun c6 => ?_)
  · replace hs := oq_neg c6 hs
    refine jr_aload_n ok 0 d_QR_take_21 rfl rfl ?_
    refine jr_iconst ok d_QR_take_22 ?_
    obtain ⟨r7, S7, hc7, hs⟩ := mb2_some hs
    refine jq_cV0 ok hR m_QR_57 (r_QR_refuse (jx_l X) D g A c S5 2 r7 S7  hc7) (sg_atk 13 rfl) rfl rfl rfl (Nat.le_of_ble_eq_true rfl) ⟨Nat.le_of_ble_eq_true rfl, Nat.le_of_ble_eq_true rfl⟩ ⟨Nat.zero_le _, Nat.zero_le _⟩ d_QR_take_23 ?_
    show jw X 0 0 (wtL D g A c S7) [(0, .ref (g 10)), (1, .int (ii v1))] 26 []
    exact jm_vret (Lf := wtL D g A c) ok fin hs d_QR_take_26
  · replace hs := oq_pos c6 hs
    refine jr_aload_n ok 0 d_QR_take_11 rfl rfl ?_
    refine jr_get (v := .ref (g 11)) ok 13 f_QR_24 rfl rfl d_QR_take_12 ?_
    obtain ⟨r8, S8, hc8, hs⟩ := mb2_some hs
    refine jq_cV0 ok hR m_QR_67 (r_Lx_advance (jx_l X) D g A c S5  r8 S8  hc8) (sg_atk 14 rfl) rfl rfl rfl (Nat.le_of_ble_eq_true rfl) ⟨Nat.le_of_ble_eq_true rfl, Nat.le_of_ble_eq_true rfl⟩ ⟨Nat.zero_le _, Nat.zero_le _⟩ d_QR_take_15 ?_
    show jw X 0 0 (wtL D g A c S8) [(0, .ref (g 10)), (1, .int (ii v1))] 18 []
    refine jr_goto 26 ok d_QR_take_18 (by decide) ?_
    exact jm_vret (Lf := wtL D g A c) ok fin hs d_QR_take_26

def q_Ev_addPoints_21 (c : CW) : Nat → Int → Nat → Int → Nat → Int → WS → Option (Unit × WS)
  | 0, _, _, _, _, _, _ => none
  | n + 1, v1, v2, v3, v4, v5, S => mb2 (s_Pt_size c S v4) (fun r10 S10 => if w32 r10 ≤ w32 v5 then some ((), S10) else mb2 (s_Pt_timeAt c S10 v4 v5) (fun r12 S12 => if ¬ S12.ev_width = 0 then if ((r12 - S12.ev_from) / S12.ev_width).toInt < (ll (w32 S12.ev_windows)).toInt then mb2 (s_Gd_placeOf c S12 v2 v3 (((r12 - S12.ev_from) / S12.ev_width).toInt)) (fun r15 S15 => mb2 (s_Ev_addPoint c S15 v1 v2 r15 v4 v5) (fun r16 S16 => (q_Ev_addPoints_21 c n) v1 v2 v3 v4 (v5 + 1) S16)) else some ((), S12) else none))

def s_Ev_addPoints (c : CW) (S : WS) (v1 : Int) (v2 : Nat) (v3 : Int) (v4 : Nat) : Option (Unit × WS) := if 1 ≤ S.ev_width.toInt then mb2 (s_Pt_firstFrom c S v4 S.ev_from) (fun r18 S18 => q_Ev_addPoints_21 c fU v1 v2 v3 v4 r18 S18) else some ((), S)
set_option maxHeartbeats 4000000 in
set_option maxRecDepth 100000 in
theorem r_Ev_addPoints (l : Launch) (D : jd_T) (g : Nat → Nat) (A : AW) (c : CW) (S : WS) (v1 : Int) (v2 : Nat) (v3 : Int) (v4 : Nat) (r : Unit) (S9 : WS) (hv2 : v2 < 19) (hv4 : v4 < c.N) (hs : s_Ev_addPoints c S v1 v2 v3 v4 = some (r, S9)) : jc_C l D y_Ev_addPoints b_Ev_addPoints 8 none { frames := 3, cells := 0, slots := 0, locals := 81 } [.ref (g 17), .int (ii v1), .ref (g (19 + v2)), .int (ii v3), .ref (A.us v4 5)] (wtL D g A c S) (fun _ : Unit => (.returned (none), True, wtL D g A c S9)) := by
  refine jc_of rfl (Nat.le_of_ble_eq_true rfl) ?_
  intro X hl hR hN ok hnm fin
  subst hl
  have B_21 : ∀ (n21 : Nat), ∀ (v1 : Int) (v2 : Nat) (v3 : Int) (v4 : Nat) (v5 : Int) (S : WS), v2 < 19 → v4 < c.N → q_Ev_addPoints_21 c n21 v1 v2 v3 v4 v5 S = some (r, S9) → jw X 0 0 (wtL D g A c S) [(0, .ref (g 17)), (1, .int (ii v1)), (2, .ref (g (19 + v2))), (3, .int (ii v3)), (4, .ref (A.us v4 5)), (5, .int (ii v5))] 21 [] := by
    intro n21
    induction n21 with
    | zero =>
      intro v1 v2 v3 v4 v5 S hv2 hv4 hs
      rw [q_Ev_addPoints_21] at hs; cases hs
    | succ n21 ih21 =>
      intro v1 v2 v3 v4 v5 S hv2 hv4 hs
      rw [q_Ev_addPoints_21] at hs
      refine jr_iload ok 5 d_Ev_addPoints_21 rfl ?_
      refine jr_aload ok 4 d_Ev_addPoints_23 rfl ?_
      obtain ⟨r10, S10, hc10, hs⟩ := mb2_some hs
      refine jq_cV1 ok hR m_Ev_201 (r_Pt_size (jx_l X) D g A c S v4 r10 S10 hv4 hc10) (sg_atp (F := serW D A c S) 5 rfl hv4 5 rfl) rfl rfl rfl (Nat.le_of_ble_eq_true rfl) ⟨Nat.le_of_ble_eq_true rfl, Nat.le_of_ble_eq_true rfl⟩ ⟨Nat.zero_le _, Nat.zero_le _⟩ d_Ev_addPoints_25 ?_
      show jw X 0 0 (wtL D g A c S10) [(0, .ref (g 17)), (1, .int (ii v1)), (2, .ref (g (19 + v2))), (3, .int (ii v3)), (4, .ref (A.us v4 5)), (5, .int (ii v5))] 28 [.int (ii r10), .int (ii v5)]
      refine jr_wicmp_ge 86 ok rfl rfl d_Ev_addPoints_28 (by decide) (fun c11 => ?_) (fun c11 => ?_)
      · replace hs := oq_pos c11 hs
        exact jm_vret (Lf := wtL D g A c) ok fin hs d_Ev_addPoints_86
      · replace hs := oq_neg c11 hs
        refine jr_aload ok 4 d_Ev_addPoints_31 rfl ?_
        refine jr_iload ok 5 d_Ev_addPoints_33 rfl ?_
        obtain ⟨r12, S12, hc12, hs⟩ := mb2_some hs
        refine jq_cV1 ok hR m_Ev_202 (r_Pt_timeAt (jx_l X) D g A c S10 v4 v5 r12 S12 hv4 hc12) (sg_atp (F := serW D A c S10) 5 rfl hv4 5 rfl) rfl rfl rfl (Nat.le_of_ble_eq_true rfl) ⟨Nat.le_of_ble_eq_true rfl, Nat.le_of_ble_eq_true rfl⟩ ⟨Nat.zero_le _, Nat.zero_le _⟩ d_Ev_addPoints_35 ?_
        show jw X 0 0 (wtL D g A c S12) [(0, .ref (g 17)), (1, .int (ii v1)), (2, .ref (g (19 + v2))), (3, .int (ii v3)), (4, .ref (A.us v4 5)), (5, .int (ii v5))] 38 [.long r12]
        refine jr_aload_n ok 0 d_Ev_addPoints_38 rfl rfl ?_
        refine jr_get (v := .long S12.ev_from) ok 20 f_Ev_38 rfl rfl d_Ev_addPoints_39 ?_
        refine jr_lsubx ok d_Ev_addPoints_42 ?_
        refine jr_aload_n ok 0 d_Ev_addPoints_43 rfl rfl ?_
        refine jr_get (v := .long S12.ev_width) ok 20 f_Ev_42 rfl rfl d_Ev_addPoints_44 ?_
        obtain ⟨hb13, hs⟩ := oq_if hs
        refine jr_ldivx ok d_Ev_addPoints_47 hb13 ?_
        refine jr_lstore [(6, .long ((r12 - S12.ev_from) / S12.ev_width)), (0, .ref (g 17)), (1, .int (ii v1)), (2, .ref (g (19 + v2))), (3, .int (ii v3)), (4, .ref (A.us v4 5)), (5, .int (ii v5))] ok d_Ev_addPoints_48 (by rw [hN]; decide) rfl ?_
        refine jr_lload ok 0 d_Ev_addPoints_50 rfl ?_
        refine jr_aload_n ok 1 d_Ev_addPoints_52 rfl rfl ?_
        refine jr_get (v := .int (ii S12.ev_windows)) ok 20 f_Ev_45 rfl rfl d_Ev_addPoints_53 ?_
        refine jr_wi2l ok rfl d_Ev_addPoints_56 ?_
        refine jr_lif_lt 62 ok rfl rfl d_Ev_addPoints_57 d_Ev_addPoints_58 (by decide) (fun c14 => ?_) (fun c14 => ?_)
        · replace hs := oq_pos c14 hs
          refine jr_aload_n ok 1 d_Ev_addPoints_62 rfl rfl ?_
          refine jr_iload_n ok 2 d_Ev_addPoints_63 rfl rfl ?_
          refine jr_aload_n ok 3 d_Ev_addPoints_64 rfl rfl ?_
          refine jr_aload_n ok 3 d_Ev_addPoints_65 rfl rfl ?_
          refine jr_iload_n ok 4 d_Ev_addPoints_66 rfl rfl ?_
          refine jr_lload ok 0 d_Ev_addPoints_67 rfl ?_
          refine jr_l2ix ok d_Ev_addPoints_69 ?_
          obtain ⟨r15, S15, hc15, hs⟩ := mb2_some hs
          refine jq_cV1 ok hR m_Ev_111 (r_Gd_placeOf (jx_l X) D g A c S12 v2 v3 (((r12 - S12.ev_from) / S12.ev_width).toInt) r15 S15 hv2 hc15) (sg_atp (F := grdW D g A c S12) 23 rfl hv2 0 rfl) rfl rfl rfl (Nat.le_of_ble_eq_true rfl) ⟨Nat.le_of_ble_eq_true rfl, Nat.le_of_ble_eq_true rfl⟩ ⟨Nat.zero_le _, Nat.zero_le _⟩ d_Ev_addPoints_70 ?_
          show jw X 0 0 (wtL D g A c S15) [(6, .long ((r12 - S12.ev_from) / S12.ev_width)), (0, .ref (g 17)), (1, .int (ii v1)), (2, .ref (g (19 + v2))), (3, .int (ii v3)), (4, .ref (A.us v4 5)), (5, .int (ii v5))] 73 [.int (ii r15), .ref (g (19 + v2)), .int (ii v1), .ref (g 17)]
          refine jr_aload ok 5 d_Ev_addPoints_73 rfl ?_
          refine jr_iload ok 6 d_Ev_addPoints_75 rfl ?_
          obtain ⟨r16, S16, hc16, hs⟩ := mb2_some hs
          refine jq_cV0 ok hR m_Ev_205 (r_Ev_addPoint (jx_l X) D g A c S15 v1 v2 r15 v4 v5 r16 S16 hv2 hv4 hc16) (sg_atk 20 rfl) rfl rfl rfl (Nat.le_of_ble_eq_true rfl) ⟨Nat.le_of_ble_eq_true rfl, Nat.le_of_ble_eq_true rfl⟩ ⟨Nat.zero_le _, Nat.zero_le _⟩ d_Ev_addPoints_77 ?_
          show jw X 0 0 (wtL D g A c S16) [(6, .long ((r12 - S12.ev_from) / S12.ev_width)), (0, .ref (g 17)), (1, .int (ii v1)), (2, .ref (g (19 + v2))), (3, .int (ii v3)), (4, .ref (A.us v4 5)), (5, .int (ii v5))] 80 []
          refine jr_iinc [(5, .int (ii (v5 + 1))), (6, .long ((r12 - S12.ev_from) / S12.ev_width)), (0, .ref (g 17)), (1, .int (ii v1)), (2, .ref (g (19 + v2))), (3, .int (ii v3)), (4, .ref (A.us v4 5))] 6 ok d_Ev_addPoints_80 rfl (by rw [hN]; decide) rfl ?_
          refine jr_goto 21 ok d_Ev_addPoints_83 (by decide) ?_
          exact jr_lv [2, 3, 4, 5, 6, 0] rfl (ih21 v1 v2 v3 v4 (v5 + 1) S16 hv2 hv4 hs)
        · replace hs := oq_neg c14 hs
          exact jm_vret (Lf := wtL D g A c) ok fin hs d_Ev_addPoints_61
  show jw X 0 0 (wtL D g A c S) [(0, .ref (g 17)), (1, .int (ii v1)), (2, .ref (g (19 + v2))), (3, .int (ii v3)), (4, .ref (A.us v4 5))] 0 []
  rw [s_Ev_addPoints] at hs
  refine jr_aload_n ok 0 d_Ev_addPoints_0 rfl rfl ?_
  refine jr_get (v := .long S.ev_width) ok 20 f_Ev_42 rfl rfl d_Ev_addPoints_1 ?_
  refine jr_lconst (z := 1) ok d_Ev_addPoints_4 (by decide +kernel) ?_
  refine jr_lif_ge 10 ok rfl (ll_toInt ⟨by decide, by decide⟩) d_Ev_addPoints_5 d_Ev_addPoints_6 (by decide) (fun c17 => ?_) (fun c17 => ?_)
  · replace hs := oq_pos c17 hs
    refine jr_aload ok 4 d_Ev_addPoints_10 rfl ?_
    refine jr_aload_n ok 0 d_Ev_addPoints_12 rfl rfl ?_
    refine jr_get (v := .long S.ev_from) ok 20 f_Ev_38 rfl rfl d_Ev_addPoints_13 ?_
    obtain ⟨r18, S18, hc18, hs⟩ := mb2_some hs
    refine jq_cV1 ok hR m_Ev_195 (r_Pt_firstFrom (jx_l X) D g A c S v4 S.ev_from r18 S18 hv4 hc18) (sg_atp (F := serW D A c S) 5 rfl hv4 5 rfl) rfl rfl rfl (Nat.le_of_ble_eq_true rfl) ⟨Nat.le_of_ble_eq_true rfl, Nat.le_of_ble_eq_true rfl⟩ ⟨Nat.zero_le _, Nat.zero_le _⟩ d_Ev_addPoints_16 ?_
    show jw X 0 0 (wtL D g A c S18) [(0, .ref (g 17)), (1, .int (ii v1)), (2, .ref (g (19 + v2))), (3, .int (ii v3)), (4, .ref (A.us v4 5))] 19 [.int (ii r18)]
    refine jr_istore [(5, .int (ii r18)), (0, .ref (g 17)), (1, .int (ii v1)), (2, .ref (g (19 + v2))), (3, .int (ii v3)), (4, .ref (A.us v4 5))] ok d_Ev_addPoints_19 (by rw [hN]; decide) rfl ?_
    exact jr_lv [1, 2, 3, 4, 5, 0] rfl (B_21 fU v1 v2 v3 v4 r18 S18 hv2 hv4 hs)
  · replace hs := oq_neg c17 hs
    exact jm_vret (Lf := wtL D g A c) ok fin hs d_Ev_addPoints_9

def s_Pg_lengthOf (c : CW) (S : WS) (v1 : Int) : Option (Int × WS) := mb2 (s_Pg_get c S v1) (fun r6 S6 => if w32 r6 = 302 then some (3, S6) else if w32 r6 = 310 then mb2 (s_Pg_matchesOf c S6 v1) (fun r9 S9 => mb2 (s_Pg_matchOf c S9 v1 r9) (fun r10 S10 => some (r10 - v1, S10))) else some (1, S6))
set_option maxHeartbeats 4000000 in
set_option maxRecDepth 100000 in
theorem r_Pg_lengthOf (l : Launch) (D : jd_T) (g : Nat → Nat) (A : AW) (c : CW) (S : WS) (v1 : Int) (r : Int) (S9 : WS)  (hs : s_Pg_lengthOf c S v1 = some (r, S9)) : jc_C l D y_Pg_lengthOf b_Pg_lengthOf 2 (some .int) { frames := 3, cells := 0, slots := 0, locals := 64 } [.ref (g 9), .int (ii v1)] (wtL D g A c S) (fun _ : Unit => (.returned (some (.int (ii r))), True, wtL D g A c S9)) := by
  refine jc_of rfl (Nat.le_of_ble_eq_true rfl) ?_
  intro X hl hR hN ok hnm fin
  subst hl
  show jw X 0 0 (wtL D g A c S) [(0, .ref (g 9)), (1, .int (ii v1))] 0 []
  rw [s_Pg_lengthOf] at hs
  refine jr_aload_n ok 0 d_Pg_lengthOf_0 rfl rfl ?_
  refine jr_iload_n ok 1 d_Pg_lengthOf_1 rfl rfl ?_
  obtain ⟨r6, S6, hc6, hs⟩ := mb2_some hs
  refine jq_cV1 ok hR m_Pg_29 (r_Pg_get (jx_l X) D g A c S v1 r6 S6  hc6) (sg_atk 11 rfl) rfl rfl rfl (Nat.le_of_ble_eq_true rfl) ⟨Nat.le_of_ble_eq_true rfl, Nat.le_of_ble_eq_true rfl⟩ ⟨Nat.zero_le _, Nat.zero_le _⟩ d_Pg_lengthOf_2 ?_
  show jw X 0 0 (wtL D g A c S6) [(0, .ref (g 9)), (1, .int (ii v1))] 5 [.int (ii r6)]
  by_cases c7 : w32 r6 = 302
  · replace hs := oq_pos c7 hs
    refine jr_wlook (off := 27) 32 c7 ok d_Pg_lengthOf_5 (by decide) (by decide) (by decide) ?_
    refine jr_iconst ok d_Pg_lengthOf_32 ?_
    exact jm_iret (Lf := wtL D g A c) ok fin hs d_Pg_lengthOf_33
  · replace hs := oq_neg c7 hs
    by_cases c8 : w32 r6 = 310
    · replace hs := oq_pos c8 hs
      refine jr_wlook (off := 29) 34 c8 ok d_Pg_lengthOf_5 (by decide) (by decide) (by decide) ?_
      refine jr_aload_n ok 0 d_Pg_lengthOf_34 rfl rfl ?_
      refine jr_iload_n ok 1 d_Pg_lengthOf_35 rfl rfl ?_
      refine jr_aload_n ok 0 d_Pg_lengthOf_36 rfl rfl ?_
      refine jr_iload_n ok 1 d_Pg_lengthOf_37 rfl rfl ?_
      obtain ⟨r9, S9, hc9, hs⟩ := mb2_some hs
      refine jq_cV1 ok hR m_Pg_41 (r_Pg_matchesOf (jx_l X) D g A c S6 v1 r9 S9  hc9) (sg_atk 11 rfl) rfl rfl rfl (Nat.le_of_ble_eq_true rfl) ⟨Nat.le_of_ble_eq_true rfl, Nat.le_of_ble_eq_true rfl⟩ ⟨Nat.zero_le _, Nat.zero_le _⟩ d_Pg_lengthOf_38 ?_
      show jw X 0 0 (wtL D g A c S9) [(0, .ref (g 9)), (1, .int (ii v1))] 41 [.int (ii r9), .int (ii v1), .ref (g 9)]
      obtain ⟨r10, S10, hc10, hs⟩ := mb2_some hs
      refine jq_cV1 ok hR m_Pg_44 (r_Pg_matchOf (jx_l X) D g A c S9 v1 r9 r10 S10  hc10) (sg_atk 11 rfl) rfl rfl rfl (Nat.le_of_ble_eq_true rfl) ⟨Nat.le_of_ble_eq_true rfl, Nat.le_of_ble_eq_true rfl⟩ ⟨Nat.zero_le _, Nat.zero_le _⟩ d_Pg_lengthOf_41 ?_
      show jw X 0 0 (wtL D g A c S10) [(0, .ref (g 9)), (1, .int (ii v1))] 44 [.int (ii r10)]
      refine jr_iload_n ok 1 d_Pg_lengthOf_44 rfl rfl ?_
      refine jr_isub ok d_Pg_lengthOf_45 ?_
      exact jm_iret (Lf := wtL D g A c) ok fin hs d_Pg_lengthOf_46
    · replace hs := oq_neg c8 hs
      refine jr_wlook (off := 42) 47 rfl ok d_Pg_lengthOf_5 (by decide) (by simp [Op.lookupswitch.offset, Ne.symm c7, Ne.symm c8] <;> rfl) (by decide) ?_
      refine jr_iconst ok d_Pg_lengthOf_47 ?_
      exact jm_iret (Lf := wtL D g A c) ok fin hs d_Pg_lengthOf_48

def q_QR_haveSameNames_23 (c : CW) : Nat → Int → Int → Int → WS → Option (Int × WS)
  | 0, _, _, _, _ => none
  | n + 1, v1, v2, v3, S => mb2 (s_Pg_namesOf c S v1) (fun r10 S10 => if w32 r10 ≤ w32 v3 then some (1, S10) else mb2 (s_Pg_nameAt c S10 v2 v3) (fun r12 S12 => mb2 (s_Pg_nameLength c S12 v2 v3) (fun r13 S13 => mb2 (s_QR_isName c S13 v1 v3 r12 r13) (fun r14 S14 => if w32 r14 = 0 then some (0, S14) else (q_QR_haveSameNames_23 c n) v1 v2 (v3 + 1) S14))))

def s_QR_haveSameNames (c : CW) (S : WS) (v1 : Int) (v2 : Int) : Option (Int × WS) := mb2 (s_Pg_namesOf c S v1) (fun r16 S16 => mb2 (s_Pg_namesOf c S16 v2) (fun r17 S17 => if w32 r16 = w32 r17 then q_QR_haveSameNames_23 c fU v1 v2 0 S17 else some (0, S17)))
set_option maxHeartbeats 4000000 in
set_option maxRecDepth 100000 in
theorem r_QR_haveSameNames (l : Launch) (D : jd_T) (g : Nat → Nat) (A : AW) (c : CW) (S : WS) (v1 : Int) (v2 : Int) (r : Int) (S9 : WS)  (hs : s_QR_haveSameNames c S v1 v2 = some (r, S9)) : jc_C l D y_QR_haveSameNames b_QR_haveSameNames 4 (some .boolean) { frames := 3, cells := 0, slots := 0, locals := 74 } [.ref (g 10), .int (ii v1), .int (ii v2)] (wtL D g A c S) (fun _ : Unit => (.returned (some (.int (ii r))), True, wtL D g A c S9)) := by
  refine jc_of rfl (Nat.le_of_ble_eq_true rfl) ?_
  intro X hl hR hN ok hnm fin
  subst hl
  have B_23 : ∀ (n23 : Nat), ∀ (v1 : Int) (v2 : Int) (v3 : Int) (S : WS), q_QR_haveSameNames_23 c n23 v1 v2 v3 S = some (r, S9) → jw X 0 0 (wtL D g A c S) [(0, .ref (g 10)), (1, .int (ii v1)), (2, .int (ii v2)), (3, .int (ii v3))] 23 [] := by
    intro n23
    induction n23 with
    | zero =>
      intro v1 v2 v3 S hs
      rw [q_QR_haveSameNames_23] at hs; cases hs
    | succ n23 ih23 =>
      intro v1 v2 v3 S hs
      rw [q_QR_haveSameNames_23] at hs
      refine jr_iload_n ok 3 d_QR_haveSameNames_23 rfl rfl ?_
      refine jr_aload_n ok 0 d_QR_haveSameNames_24 rfl rfl ?_
      refine jr_get (v := .ref (g 9)) ok 13 f_QR_15 rfl rfl d_QR_haveSameNames_25 ?_
      refine jr_iload_n ok 1 d_QR_haveSameNames_28 rfl rfl ?_
      obtain ⟨r10, S10, hc10, hs⟩ := mb2_some hs
      refine jq_cV1 ok hR m_QR_99 (r_Pg_namesOf (jx_l X) D g A c S v1 r10 S10  hc10) (sg_atk 11 rfl) rfl rfl rfl (Nat.le_of_ble_eq_true rfl) ⟨Nat.le_of_ble_eq_true rfl, Nat.le_of_ble_eq_true rfl⟩ ⟨Nat.zero_le _, Nat.zero_le _⟩ d_QR_haveSameNames_29 ?_
      show jw X 0 0 (wtL D g A c S10) [(0, .ref (g 10)), (1, .int (ii v1)), (2, .int (ii v2)), (3, .int (ii v3))] 32 [.int (ii r10), .int (ii v3)]
      refine jr_wicmp_ge 70 ok rfl rfl d_QR_haveSameNames_32 (by decide) (fun c11 => ?_) (fun c11 => ?_)
      · replace hs := oq_pos c11 hs
        refine jr_iconst ok d_QR_haveSameNames_70 ?_
        exact jm_zret (Lf := wtL D g A c) ok (by decide +kernel) fin hs d_QR_haveSameNames_71
      · replace hs := oq_neg c11 hs
        refine jr_aload_n ok 0 d_QR_haveSameNames_35 rfl rfl ?_
        refine jr_iload_n ok 1 d_QR_haveSameNames_36 rfl rfl ?_
        refine jr_iload_n ok 3 d_QR_haveSameNames_37 rfl rfl ?_
        refine jr_aload_n ok 0 d_QR_haveSameNames_38 rfl rfl ?_
        refine jr_get (v := .ref (g 9)) ok 13 f_QR_15 rfl rfl d_QR_haveSameNames_39 ?_
        refine jr_iload_n ok 2 d_QR_haveSameNames_42 rfl rfl ?_
        refine jr_iload_n ok 3 d_QR_haveSameNames_43 rfl rfl ?_
        obtain ⟨r12, S12, hc12, hs⟩ := mb2_some hs
        refine jq_cV1 ok hR m_QR_102 (r_Pg_nameAt (jx_l X) D g A c S10 v2 v3 r12 S12  hc12) (sg_atk 11 rfl) rfl rfl rfl (Nat.le_of_ble_eq_true rfl) ⟨Nat.le_of_ble_eq_true rfl, Nat.le_of_ble_eq_true rfl⟩ ⟨Nat.zero_le _, Nat.zero_le _⟩ d_QR_haveSameNames_44 ?_
        show jw X 0 0 (wtL D g A c S12) [(0, .ref (g 10)), (1, .int (ii v1)), (2, .int (ii v2)), (3, .int (ii v3))] 47 [.int (ii r12), .int (ii v3), .int (ii v1), .ref (g 10)]
        refine jr_aload_n ok 0 d_QR_haveSameNames_47 rfl rfl ?_
        refine jr_get (v := .ref (g 9)) ok 13 f_QR_15 rfl rfl d_QR_haveSameNames_48 ?_
        refine jr_iload_n ok 2 d_QR_haveSameNames_51 rfl rfl ?_
        refine jr_iload_n ok 3 d_QR_haveSameNames_52 rfl rfl ?_
        obtain ⟨r13, S13, hc13, hs⟩ := mb2_some hs
        refine jq_cV1 ok hR m_QR_106 (r_Pg_nameLength (jx_l X) D g A c S12 v2 v3 r13 S13  hc13) (sg_atk 11 rfl) rfl rfl rfl (Nat.le_of_ble_eq_true rfl) ⟨Nat.le_of_ble_eq_true rfl, Nat.le_of_ble_eq_true rfl⟩ ⟨Nat.zero_le _, Nat.zero_le _⟩ d_QR_haveSameNames_53 ?_
        show jw X 0 0 (wtL D g A c S13) [(0, .ref (g 10)), (1, .int (ii v1)), (2, .int (ii v2)), (3, .int (ii v3))] 56 [.int (ii r13), .int (ii r12), .int (ii v3), .int (ii v1), .ref (g 10)]
        obtain ⟨r14, S14, hc14, hs⟩ := mb2_some hs
        refine jq_cV1 ok hR m_QR_109 (r_QR_isName (jx_l X) D g A c S13 v1 v3 r12 r13 r14 S14  hc14) (sg_atk 13 rfl) rfl rfl rfl (Nat.le_of_ble_eq_true rfl) ⟨Nat.le_of_ble_eq_true rfl, Nat.le_of_ble_eq_true rfl⟩ ⟨Nat.zero_le _, Nat.zero_le _⟩ d_QR_haveSameNames_56 ?_
        show jw X 0 0 (wtL D g A c S14) [(0, .ref (g 10)), (1, .int (ii v1)), (2, .int (ii v2)), (3, .int (ii v3))] 59 [.int (ii r14)]
        refine jr_wif_ne 64 ok rfl d_QR_haveSameNames_59 (by decide) (fun c15 => ?_) (fun c15 => ?_)
        · replace hs := oq_neg c15 hs
          refine jr_iinc [(3, .int (ii (v3 + 1))), (0, .ref (g 10)), (1, .int (ii v1)), (2, .int (ii v2))] 3 ok d_QR_haveSameNames_64 rfl (by rw [hN]; decide) rfl ?_
          refine jr_goto 23 ok d_QR_haveSameNames_67 (by decide) ?_
          exact jr_lv [1, 2, 3, 0] rfl (ih23 v1 v2 (v3 + 1) S14 hs)
        · replace hs := oq_pos c15 hs
          refine jr_iconst ok d_QR_haveSameNames_62 ?_
          exact jm_zret (Lf := wtL D g A c) ok (by decide +kernel) fin hs d_QR_haveSameNames_63
  show jw X 0 0 (wtL D g A c S) [(0, .ref (g 10)), (1, .int (ii v1)), (2, .int (ii v2))] 0 []
  rw [s_QR_haveSameNames] at hs
  refine jr_aload_n ok 0 d_QR_haveSameNames_0 rfl rfl ?_
  refine jr_get (v := .ref (g 9)) ok 13 f_QR_15 rfl rfl d_QR_haveSameNames_1 ?_
  refine jr_iload_n ok 1 d_QR_haveSameNames_4 rfl rfl ?_
  obtain ⟨r16, S16, hc16, hs⟩ := mb2_some hs
  refine jq_cV1 ok hR m_QR_99 (r_Pg_namesOf (jx_l X) D g A c S v1 r16 S16  hc16) (sg_atk 11 rfl) rfl rfl rfl (Nat.le_of_ble_eq_true rfl) ⟨Nat.le_of_ble_eq_true rfl, Nat.le_of_ble_eq_true rfl⟩ ⟨Nat.zero_le _, Nat.zero_le _⟩ d_QR_haveSameNames_5 ?_
  show jw X 0 0 (wtL D g A c S16) [(0, .ref (g 10)), (1, .int (ii v1)), (2, .int (ii v2))] 8 [.int (ii r16)]
  refine jr_aload_n ok 0 d_QR_haveSameNames_8 rfl rfl ?_
  refine jr_get (v := .ref (g 9)) ok 13 f_QR_15 rfl rfl d_QR_haveSameNames_9 ?_
  refine jr_iload_n ok 2 d_QR_haveSameNames_12 rfl rfl ?_
  obtain ⟨r17, S17, hc17, hs⟩ := mb2_some hs
  refine jq_cV1 ok hR m_QR_99 (r_Pg_namesOf (jx_l X) D g A c S16 v2 r17 S17  hc17) (sg_atk 11 rfl) rfl rfl rfl (Nat.le_of_ble_eq_true rfl) ⟨Nat.le_of_ble_eq_true rfl, Nat.le_of_ble_eq_true rfl⟩ ⟨Nat.zero_le _, Nat.zero_le _⟩ d_QR_haveSameNames_13 ?_
  show jw X 0 0 (wtL D g A c S17) [(0, .ref (g 10)), (1, .int (ii v1)), (2, .int (ii v2))] 16 [.int (ii r17), .int (ii r16)]
  refine jr_wicmp_eq 21 ok rfl rfl d_QR_haveSameNames_16 (by decide) (fun c18 => ?_) (fun c18 => ?_)
  · replace hs := oq_pos c18 hs
    refine jr_iconst ok d_QR_haveSameNames_21 ?_
    refine jr_istore_n [(3, .int (ii 0)), (0, .ref (g 10)), (1, .int (ii v1)), (2, .int (ii v2))] ok d_QR_haveSameNames_22 rfl (by rw [hN]; decide) rfl ?_
    exact jr_lv [1, 2, 3, 0] rfl (B_23 fU v1 v2 0 S17 hs)
  · replace hs := oq_neg c18 hs
    refine jr_iconst ok d_QR_haveSameNames_19 ?_
    exact jm_zret (Lf := wtL D g A c) ok (by decide +kernel) fin hs d_QR_haveSameNames_20

def q_QR_hasName_3 (c : CW) : Nat → Int → Int → Int → Int → WS → Option (Int × WS)
  | 0, _, _, _, _, _ => none
  | n + 1, v1, v2, v3, v4, S => mb2 (s_Pg_namesOf c S v1) (fun r5 S5 => if w32 r5 ≤ w32 v4 then some (0, S5) else mb2 (s_QR_isName c S5 v1 v4 v2 v3) (fun r7 S7 => if w32 r7 = 0 then (q_QR_hasName_3 c n) v1 v2 v3 (v4 + 1) S7 else some (1, S7)))

def s_QR_hasName (c : CW) (S : WS) (v1 : Int) (v2 : Int) (v3 : Int) : Option (Int × WS) := q_QR_hasName_3 c fU v1 v2 v3 0 S
set_option maxHeartbeats 4000000 in
set_option maxRecDepth 100000 in
theorem r_QR_hasName (l : Launch) (D : jd_T) (g : Nat → Nat) (A : AW) (c : CW) (S : WS) (v1 : Int) (v2 : Int) (v3 : Int) (r : Int) (S9 : WS)  (hs : s_QR_hasName c S v1 v2 v3 = some (r, S9)) : jc_C l D y_QR_hasName b_QR_hasName 5 (some .boolean) { frames := 3, cells := 0, slots := 0, locals := 74 } [.ref (g 10), .int (ii v1), .int (ii v2), .int (ii v3)] (wtL D g A c S) (fun _ : Unit => (.returned (some (.int (ii r))), True, wtL D g A c S9)) := by
  refine jc_of rfl (Nat.le_of_ble_eq_true rfl) ?_
  intro X hl hR hN ok hnm fin
  subst hl
  have B_3 : ∀ (n3 : Nat), ∀ (v1 : Int) (v2 : Int) (v3 : Int) (v4 : Int) (S : WS), q_QR_hasName_3 c n3 v1 v2 v3 v4 S = some (r, S9) → jw X 0 0 (wtL D g A c S) [(0, .ref (g 10)), (1, .int (ii v1)), (2, .int (ii v2)), (3, .int (ii v3)), (4, .int (ii v4))] 3 [] := by
    intro n3
    induction n3 with
    | zero =>
      intro v1 v2 v3 v4 S hs
      rw [q_QR_hasName_3] at hs; cases hs
    | succ n3 ih3 =>
      intro v1 v2 v3 v4 S hs
      rw [q_QR_hasName_3] at hs
      refine jr_iload ok 4 d_QR_hasName_3 rfl ?_
      refine jr_aload_n ok 0 d_QR_hasName_5 rfl rfl ?_
      refine jr_get (v := .ref (g 9)) ok 13 f_QR_15 rfl rfl d_QR_hasName_6 ?_
      refine jr_iload_n ok 1 d_QR_hasName_9 rfl rfl ?_
      obtain ⟨r5, S5, hc5, hs⟩ := mb2_some hs
      refine jq_cV1 ok hR m_QR_99 (r_Pg_namesOf (jx_l X) D g A c S v1 r5 S5  hc5) (sg_atk 11 rfl) rfl rfl rfl (Nat.le_of_ble_eq_true rfl) ⟨Nat.le_of_ble_eq_true rfl, Nat.le_of_ble_eq_true rfl⟩ ⟨Nat.zero_le _, Nat.zero_le _⟩ d_QR_hasName_10 ?_
      show jw X 0 0 (wtL D g A c S5) [(0, .ref (g 10)), (1, .int (ii v1)), (2, .int (ii v2)), (3, .int (ii v3)), (4, .int (ii v4))] 13 [.int (ii r5), .int (ii v4)]
      refine jr_wicmp_ge 36 ok rfl rfl d_QR_hasName_13 (by decide) (fun c6 => ?_) (fun c6 => ?_)
      · replace hs := oq_pos c6 hs
        refine jr_iconst ok d_QR_hasName_36 ?_
        exact jm_zret (Lf := wtL D g A c) ok (by decide +kernel) fin hs d_QR_hasName_37
      · replace hs := oq_neg c6 hs
        refine jr_aload_n ok 0 d_QR_hasName_16 rfl rfl ?_
        refine jr_iload_n ok 1 d_QR_hasName_17 rfl rfl ?_
        refine jr_iload ok 4 d_QR_hasName_18 rfl ?_
        refine jr_iload_n ok 2 d_QR_hasName_20 rfl rfl ?_
        refine jr_iload_n ok 3 d_QR_hasName_21 rfl rfl ?_
        obtain ⟨r7, S7, hc7, hs⟩ := mb2_some hs
        refine jq_cV1 ok hR m_QR_109 (r_QR_isName (jx_l X) D g A c S5 v1 v4 v2 v3 r7 S7  hc7) (sg_atk 13 rfl) rfl rfl rfl (Nat.le_of_ble_eq_true rfl) ⟨Nat.le_of_ble_eq_true rfl, Nat.le_of_ble_eq_true rfl⟩ ⟨Nat.zero_le _, Nat.zero_le _⟩ d_QR_hasName_22 ?_
        show jw X 0 0 (wtL D g A c S7) [(0, .ref (g 10)), (1, .int (ii v1)), (2, .int (ii v2)), (3, .int (ii v3)), (4, .int (ii v4))] 25 [.int (ii r7)]
        refine jr_wif_eq 30 ok rfl d_QR_hasName_25 (by decide) (fun c8 => ?_) (fun c8 => ?_)
        · replace hs := oq_pos c8 hs
          refine jr_iinc [(4, .int (ii (v4 + 1))), (0, .ref (g 10)), (1, .int (ii v1)), (2, .int (ii v2)), (3, .int (ii v3))] 4 ok d_QR_hasName_30 rfl (by rw [hN]; decide) rfl ?_
          refine jr_goto 3 ok d_QR_hasName_33 (by decide) ?_
          exact jr_lv [1, 2, 3, 4, 0] rfl (ih3 v1 v2 v3 (v4 + 1) S7 hs)
        · replace hs := oq_neg c8 hs
          refine jr_iconst ok d_QR_hasName_28 ?_
          exact jm_zret (Lf := wtL D g A c) ok (by decide +kernel) fin hs d_QR_hasName_29
  show jw X 0 0 (wtL D g A c S) [(0, .ref (g 10)), (1, .int (ii v1)), (2, .int (ii v2)), (3, .int (ii v3))] 0 []
  rw [s_QR_hasName] at hs
  refine jr_iconst ok d_QR_hasName_0 ?_
  refine jr_istore [(4, .int (ii 0)), (0, .ref (g 10)), (1, .int (ii v1)), (2, .int (ii v2)), (3, .int (ii v3))] ok d_QR_hasName_1 (by rw [hN]; decide) rfl ?_
  exact jr_lv [1, 2, 3, 4, 0] rfl (B_3 fU v1 v2 v3 0 S hs)

def q_Ev_dropEmptyLines_43 (c : CW) (k9 : Nat → Int → Int → WS → Option (Unit × WS)) (v1 : Nat) (v2 : Int) (v3 : Int) (S : WS) : Option (Unit × WS) := k9 v1 v2 (v3 + 1) S

def q_Ev_dropEmptyLines_9 (c : CW) : Nat → Nat → Int → Int → WS → Option (Unit × WS)
  | 0, _, _, _, _ => none
  | n + 1, v1, v2, v3, S => mb2 (s_Gd_lines c S v1) (fun r10 S10 => if w32 r10 ≤ w32 v3 then mb2 (s_Gd_keepLines c S10 v1 v2) (fun r12 S12 => some ((), S12)) else mb2 (s_Gd_isEmptyLine c S10 v1 v3) (fun r13 S13 => if w32 r13 = 0 then mb2 (s_Gd_moveLine c S13 v1 v3 v2) (fun r15 S15 => mb2 (s_Gr_moveLeader c S15 v3 v2) (fun r16 S16 => q_Ev_dropEmptyLines_43 c (q_Ev_dropEmptyLines_9 c n) v1 (v2 + 1) v3 S16)) else q_Ev_dropEmptyLines_43 c (q_Ev_dropEmptyLines_9 c n) v1 v2 v3 S13))

def s_Ev_dropEmptyLines (c : CW) (S : WS)  : Option (Unit × WS) := mb2 (s_Ev_table c S ) (fun r17 S17 => if r17 < 19 then q_Ev_dropEmptyLines_9 c fU r17 0 0 S17 else none)
set_option maxHeartbeats 4000000 in
set_option maxRecDepth 100000 in
theorem r_Ev_dropEmptyLines (l : Launch) (D : jd_T) (g : Nat → Nat) (A : AW) (c : CW) (S : WS)  (r : Unit) (S9 : WS)  (hs : s_Ev_dropEmptyLines c S  = some (r, S9)) : jc_C l D y_Ev_dropEmptyLines b_Ev_dropEmptyLines 4 none { frames := 3, cells := 0, slots := 0, locals := 66 } [.ref (g 17)] (wtL D g A c S) (fun _ : Unit => (.returned (none), True, wtL D g A c S9)) := by
  refine jc_of rfl (Nat.le_of_ble_eq_true rfl) ?_
  intro X hl hR hN ok hnm fin
  subst hl
  have B_9 : ∀ (n9 : Nat), ∀ (v1 : Nat) (v2 : Int) (v3 : Int) (S : WS), v1 < 19 → q_Ev_dropEmptyLines_9 c n9 v1 v2 v3 S = some (r, S9) → jw X 0 0 (wtL D g A c S) [(0, .ref (g 17)), (1, .ref (g (19 + v1))), (2, .int (ii v2)), (3, .int (ii v3))] 9 [] := by
    intro n9
    induction n9 with
    | zero =>
      intro v1 v2 v3 S hv1 hs
      rw [q_Ev_dropEmptyLines_9] at hs; cases hs
    | succ n9 ih9 =>
      have B_43 : ∀ (v1 : Nat) (v2 : Int) (v3 : Int) (S : WS), v1 < 19 → q_Ev_dropEmptyLines_43 c (q_Ev_dropEmptyLines_9 c n9) v1 v2 v3 S = some (r, S9) → jw X 0 0 (wtL D g A c S) [(0, .ref (g 17)), (1, .ref (g (19 + v1))), (2, .int (ii v2)), (3, .int (ii v3))] 43 [] := by
        intro v1 v2 v3 S hv1 hs
        rw [q_Ev_dropEmptyLines_43] at hs
        refine jr_iinc [(3, .int (ii (v3 + 1))), (0, .ref (g 17)), (1, .ref (g (19 + v1))), (2, .int (ii v2))] 3 ok d_Ev_dropEmptyLines_43 rfl (by rw [hN]; decide) rfl ?_
        refine jr_goto 9 ok d_Ev_dropEmptyLines_46 (by decide) ?_
        exact jr_lv [1, 2, 3, 0] rfl (ih9 v1 v2 (v3 + 1) S hv1 hs)
      intro v1 v2 v3 S hv1 hs
      rw [q_Ev_dropEmptyLines_9] at hs
      refine jr_iload_n ok 3 d_Ev_dropEmptyLines_9 rfl rfl ?_
      refine jr_aload_n ok 1 d_Ev_dropEmptyLines_10 rfl rfl ?_
      obtain ⟨r10, S10, hc10, hs⟩ := mb2_some hs
      refine jq_cV1 ok hR m_Ev_96 (r_Gd_lines (jx_l X) D g A c S v1 r10 S10 hv1 hc10) (sg_atp (F := grdW D g A c S) 23 rfl hv1 0 rfl) rfl rfl rfl (Nat.le_of_ble_eq_true rfl) ⟨Nat.le_of_ble_eq_true rfl, Nat.le_of_ble_eq_true rfl⟩ ⟨Nat.zero_le _, Nat.zero_le _⟩ d_Ev_dropEmptyLines_11 ?_
      show jw X 0 0 (wtL D g A c S10) [(0, .ref (g 17)), (1, .ref (g (19 + v1))), (2, .int (ii v2)), (3, .int (ii v3))] 14 [.int (ii r10), .int (ii v3)]
      refine jr_wicmp_ge 49 ok rfl rfl d_Ev_dropEmptyLines_14 (by decide) (fun c11 => ?_) (fun c11 => ?_)
      · replace hs := oq_pos c11 hs
        refine jr_aload_n ok 1 d_Ev_dropEmptyLines_49 rfl rfl ?_
        refine jr_iload_n ok 2 d_Ev_dropEmptyLines_50 rfl rfl ?_
        obtain ⟨r12, S12, hc12, hs⟩ := mb2_some hs
        refine jq_cV0 ok hR m_Ev_234 (r_Gd_keepLines (jx_l X) D g A c S10 v1 v2 r12 S12 hv1 hc12) (sg_atp (F := grdW D g A c S10) 23 rfl hv1 0 rfl) rfl rfl rfl (Nat.le_of_ble_eq_true rfl) ⟨Nat.le_of_ble_eq_true rfl, Nat.le_of_ble_eq_true rfl⟩ ⟨Nat.zero_le _, Nat.zero_le _⟩ d_Ev_dropEmptyLines_51 ?_
        show jw X 0 0 (wtL D g A c S12) [(0, .ref (g 17)), (1, .ref (g (19 + v1))), (2, .int (ii v2)), (3, .int (ii v3))] 54 []
        exact jm_vret (Lf := wtL D g A c) ok fin hs d_Ev_dropEmptyLines_54
      · replace hs := oq_neg c11 hs
        refine jr_aload_n ok 1 d_Ev_dropEmptyLines_17 rfl rfl ?_
        refine jr_iload_n ok 3 d_Ev_dropEmptyLines_18 rfl rfl ?_
        obtain ⟨r13, S13, hc13, hs⟩ := mb2_some hs
        refine jq_cV1 ok hR m_Ev_224 (r_Gd_isEmptyLine (jx_l X) D g A c S10 v1 v3 r13 S13 hv1 hc13) (sg_atp (F := grdW D g A c S10) 23 rfl hv1 0 rfl) rfl rfl rfl (Nat.le_of_ble_eq_true rfl) ⟨Nat.le_of_ble_eq_true rfl, Nat.le_of_ble_eq_true rfl⟩ ⟨Nat.zero_le _, Nat.zero_le _⟩ d_Ev_dropEmptyLines_19 ?_
        show jw X 0 0 (wtL D g A c S13) [(0, .ref (g 17)), (1, .ref (g (19 + v1))), (2, .int (ii v2)), (3, .int (ii v3))] 22 [.int (ii r13)]
        refine jr_wif_ne 43 ok rfl d_Ev_dropEmptyLines_22 (by decide) (fun c14 => ?_) (fun c14 => ?_)
        · replace hs := oq_neg c14 hs
          exact jr_lv [0, 1, 2, 3] rfl (B_43 v1 v2 v3 S13 hv1 hs)
        · replace hs := oq_pos c14 hs
          refine jr_aload_n ok 1 d_Ev_dropEmptyLines_25 rfl rfl ?_
          refine jr_iload_n ok 3 d_Ev_dropEmptyLines_26 rfl rfl ?_
          refine jr_iload_n ok 2 d_Ev_dropEmptyLines_27 rfl rfl ?_
          obtain ⟨r15, S15, hc15, hs⟩ := mb2_some hs
          refine jq_cV0 ok hR m_Ev_227 (r_Gd_moveLine (jx_l X) D g A c S13 v1 v3 v2 r15 S15 hv1 hc15) (sg_atp (F := grdW D g A c S13) 23 rfl hv1 0 rfl) rfl rfl rfl (Nat.le_of_ble_eq_true rfl) ⟨Nat.le_of_ble_eq_true rfl, Nat.le_of_ble_eq_true rfl⟩ ⟨Nat.zero_le _, Nat.zero_le _⟩ d_Ev_dropEmptyLines_28 ?_
          show jw X 0 0 (wtL D g A c S15) [(0, .ref (g 17)), (1, .ref (g (19 + v1))), (2, .int (ii v2)), (3, .int (ii v3))] 31 []
          refine jr_aload_n ok 0 d_Ev_dropEmptyLines_31 rfl rfl ?_
          refine jr_get (v := .ref (g 12)) ok 20 f_Ev_33 rfl rfl d_Ev_dropEmptyLines_32 ?_
          refine jr_iload_n ok 3 d_Ev_dropEmptyLines_35 rfl rfl ?_
          refine jr_iload_n ok 2 d_Ev_dropEmptyLines_36 rfl rfl ?_
          obtain ⟨r16, S16, hc16, hs⟩ := mb2_some hs
          refine jq_cV0 ok hR m_Ev_231 (r_Gr_moveLeader (jx_l X) D g A c S15 v3 v2 r16 S16  hc16) (sg_atk 15 rfl) rfl rfl rfl (Nat.le_of_ble_eq_true rfl) ⟨Nat.le_of_ble_eq_true rfl, Nat.le_of_ble_eq_true rfl⟩ ⟨Nat.zero_le _, Nat.zero_le _⟩ d_Ev_dropEmptyLines_37 ?_
          show jw X 0 0 (wtL D g A c S16) [(0, .ref (g 17)), (1, .ref (g (19 + v1))), (2, .int (ii v2)), (3, .int (ii v3))] 40 []
          refine jr_iinc [(2, .int (ii (v2 + 1))), (0, .ref (g 17)), (1, .ref (g (19 + v1))), (3, .int (ii v3))] 2 ok d_Ev_dropEmptyLines_40 rfl (by rw [hN]; decide) rfl ?_
          exact jr_lv [1, 2, 0, 3] rfl (B_43 v1 (v2 + 1) v3 S16 hv1 hs)
  show jw X 0 0 (wtL D g A c S) [(0, .ref (g 17))] 0 []
  rw [s_Ev_dropEmptyLines] at hs
  refine jr_aload_n ok 0 d_Ev_dropEmptyLines_0 rfl rfl ?_
  obtain ⟨r17, S17, hc17, hs⟩ := mb2_some hs
  refine jq_cV1 ok hR m_Ev_92 (r_Ev_table (jx_l X) D g A c S  r17 S17  hc17) (sg_atk 20 rfl) rfl rfl rfl (Nat.le_of_ble_eq_true rfl) ⟨Nat.le_of_ble_eq_true rfl, Nat.le_of_ble_eq_true rfl⟩ ⟨Nat.zero_le _, Nat.zero_le _⟩ d_Ev_dropEmptyLines_1 ?_
  obtain ⟨hb18, hs⟩ := oq_if hs
  show jw X 0 0 (wtL D g A c S17) [(0, .ref (g 17))] 4 [.ref (g (19 + r17))]
  refine jr_astore_n [(1, .ref (g (19 + r17))), (0, .ref (g 17))] ok d_Ev_dropEmptyLines_4 rfl (by rw [hN]; decide) rfl ?_
  refine jr_iconst ok d_Ev_dropEmptyLines_5 ?_
  refine jr_istore_n [(2, .int (ii 0)), (1, .ref (g (19 + r17))), (0, .ref (g 17))] ok d_Ev_dropEmptyLines_6 rfl (by rw [hN]; decide) rfl ?_
  refine jr_iconst ok d_Ev_dropEmptyLines_7 ?_
  refine jr_istore_n [(3, .int (ii 0)), (2, .int (ii 0)), (1, .ref (g (19 + r17))), (0, .ref (g 17))] ok d_Ev_dropEmptyLines_8 rfl (by rw [hN]; decide) rfl ?_
  exact jr_lv [3, 2, 1, 0] rfl (B_9 fU r17 0 0 S17 hb18 hs)

def q_Gr_findLabels_12 (c : CW) : Nat → Int → Int → Nat → Int → WS → Option (Unit × WS)
  | 0, _, _, _, _, _ => none
  | n + 1, v1, v2, v3, v4, S => if w32 S.gr_nameCount ≤ w32 v4 then some ((), S) else mb2 (s_Pg_nameAt c S v2 v4) (fun r9 S9 => mb2 (s_Pg_nameLength c S9 v2 v4) (fun r10 S10 => mb2 (s_Se_labelNamed c S10 v3 r9 r10) (fun r11 S11 => if (0 : Int) ≤ ((v1 * 6) + v4) ∧ ((v1 * 6) + v4) < (1536 : Int) then (q_Gr_findLabels_12 c n) v1 v2 v3 (v4 + 1) (WS.w_gr_labels S11 (aU S11.gr_labels ((v1 * 6) + v4) r11)) else none)))

def s_Gr_findLabels (c : CW) (S : WS) (v1 : Int) (v2 : Int) : Option (Unit × WS) := if ((0 : Int) ≤ v1 ∧ v1 < (c.N : Int)) ∧ c.N ≤ 256 then q_Gr_findLabels_12 c fU v1 v2 v1.toNat 0 S else none
set_option maxHeartbeats 4000000 in
set_option maxRecDepth 100000 in
theorem r_Gr_findLabels (l : Launch) (D : jd_T) (g : Nat → Nat) (A : AW) (c : CW) (S : WS) (v1 : Int) (v2 : Int) (r : Unit) (S9 : WS)  (hs : s_Gr_findLabels c S v1 v2 = some (r, S9)) : jc_C l D y_Gr_findLabels b_Gr_findLabels 5 none { frames := 3, cells := 0, slots := 0, locals := 70 } [.ref (g 12), .int (ii v1), .int (ii v2)] (wtL D g A c S) (fun _ : Unit => (.returned (none), True, wtL D g A c S9)) := by
  refine jc_of rfl (Nat.le_of_ble_eq_true rfl) ?_
  intro X hl hR hN ok hnm fin
  subst hl
  have B_12 : ∀ (n12 : Nat), ∀ (v1 : Int) (v2 : Int) (v3 : Nat) (v4 : Int) (S : WS), v3 < c.N → q_Gr_findLabels_12 c n12 v1 v2 v3 v4 S = some (r, S9) → jw X 0 0 (wtL D g A c S) [(0, .ref (g 12)), (1, .int (ii v1)), (2, .int (ii v2)), (3, .ref (A.us v3 0)), (4, .int (ii v4))] 12 [] := by
    intro n12
    induction n12 with
    | zero =>
      intro v1 v2 v3 v4 S hv3 hs
      rw [q_Gr_findLabels_12] at hs; cases hs
    | succ n12 ih12 =>
      intro v1 v2 v3 v4 S hv3 hs
      rw [q_Gr_findLabels_12] at hs
      refine jr_iload ok 4 d_Gr_findLabels_12 rfl ?_
      refine jr_aload_n ok 0 d_Gr_findLabels_14 rfl rfl ?_
      refine jr_get (v := .int (ii S.gr_nameCount)) ok 15 f_Gr_36 rfl rfl d_Gr_findLabels_15 ?_
      refine jr_wicmp_ge 71 ok rfl rfl d_Gr_findLabels_18 (by decide) (fun c8 => ?_) (fun c8 => ?_)
      · replace hs := oq_pos c8 hs
        exact jm_vret (Lf := wtL D g A c) ok fin hs d_Gr_findLabels_71
      · replace hs := oq_neg c8 hs
        refine jr_aload_n ok 3 d_Gr_findLabels_21 rfl rfl ?_
        refine jr_ifnull_r ok d_Gr_findLabels_22 ?_
        refine jr_aload_n ok 0 d_Gr_findLabels_25 rfl rfl ?_
        refine jr_get (v := .ref (g 13)) ok 15 f_Gr_9 rfl rfl d_Gr_findLabels_26 ?_
        refine jr_iload_n ok 1 d_Gr_findLabels_29 rfl rfl ?_
        refine jr_bipush ok d_Gr_findLabels_30 (by decide +kernel) ?_
        refine jr_imul ok d_Gr_findLabels_32 ?_
        refine jr_iload ok 4 d_Gr_findLabels_33 rfl ?_
        refine jr_iadd ok d_Gr_findLabels_35 ?_
        refine jr_aload_n ok 3 d_Gr_findLabels_36 rfl rfl ?_
        refine jr_aload_n ok 0 d_Gr_findLabels_37 rfl rfl ?_
        refine jr_get (v := .ref (g 1)) ok 15 f_Gr_24 rfl rfl d_Gr_findLabels_38 ?_
        refine jr_aload_n ok 0 d_Gr_findLabels_41 rfl rfl ?_
        refine jr_get (v := .ref (g 9)) ok 15 f_Gr_32 rfl rfl d_Gr_findLabels_42 ?_
        refine jr_iload_n ok 2 d_Gr_findLabels_45 rfl rfl ?_
        refine jr_iload ok 4 d_Gr_findLabels_46 rfl ?_
        obtain ⟨r9, S9, hc9, hs⟩ := mb2_some hs
        refine jq_cV1 ok hR m_Gr_75 (r_Pg_nameAt (jx_l X) D g A c S v2 v4 r9 S9  hc9) (sg_atk 11 rfl) rfl rfl rfl (Nat.le_of_ble_eq_true rfl) ⟨Nat.le_of_ble_eq_true rfl, Nat.le_of_ble_eq_true rfl⟩ ⟨Nat.zero_le _, Nat.zero_le _⟩ d_Gr_findLabels_48 ?_
        show jw X 0 0 (wtL D g A c S9) [(0, .ref (g 12)), (1, .int (ii v1)), (2, .int (ii v2)), (3, .ref (A.us v3 0)), (4, .int (ii v4))] 51 [.int (ii r9), .ref (g 1), .ref (A.us v3 0), .int (ii ((v1 * 6) + v4)), .ref (g 13)]
        refine jr_aload_n ok 0 d_Gr_findLabels_51 rfl rfl ?_
        refine jr_get (v := .ref (g 9)) ok 15 f_Gr_32 rfl rfl d_Gr_findLabels_52 ?_
        refine jr_iload_n ok 2 d_Gr_findLabels_55 rfl rfl ?_
        refine jr_iload ok 4 d_Gr_findLabels_56 rfl ?_
        obtain ⟨r10, S10, hc10, hs⟩ := mb2_some hs
        refine jq_cV1 ok hR m_Gr_78 (r_Pg_nameLength (jx_l X) D g A c S9 v2 v4 r10 S10  hc10) (sg_atk 11 rfl) rfl rfl rfl (Nat.le_of_ble_eq_true rfl) ⟨Nat.le_of_ble_eq_true rfl, Nat.le_of_ble_eq_true rfl⟩ ⟨Nat.zero_le _, Nat.zero_le _⟩ d_Gr_findLabels_58 ?_
        show jw X 0 0 (wtL D g A c S10) [(0, .ref (g 12)), (1, .int (ii v1)), (2, .int (ii v2)), (3, .ref (A.us v3 0)), (4, .int (ii v4))] 61 [.int (ii r10), .int (ii r9), .ref (g 1), .ref (A.us v3 0), .int (ii ((v1 * 6) + v4)), .ref (g 13)]
        obtain ⟨r11, S11, hc11, hs⟩ := mb2_some hs
        refine jq_cV1 ok hR m_Gr_81 (r_Se_labelNamed (jx_l X) D g A c S10 v3 r9 r10 r11 S11 hv3 hc11) (sg_atp (F := serW D A c S10) 5 rfl hv3 0 rfl) rfl rfl rfl (Nat.le_of_ble_eq_true rfl) ⟨Nat.le_of_ble_eq_true rfl, Nat.le_of_ble_eq_true rfl⟩ ⟨Nat.zero_le _, Nat.zero_le _⟩ d_Gr_findLabels_61 ?_
        show jw X 0 0 (wtL D g A c S11) [(0, .ref (g 12)), (1, .int (ii v1)), (2, .int (ii v2)), (3, .ref (A.us v3 0)), (4, .int (ii v4))] 64 [.int (ii r11), .int (ii ((v1 * 6) + v4)), .ref (g 13)]
        obtain ⟨hb12, hs⟩ := oq_if hs
        refine jr_iast (wtL D g A c (WS.w_gr_labels S11 (aU S11.gr_labels ((v1 * 6) + v4) r11))) ok 16 rfl rfl hb12.1 hb12.2  rfl d_Gr_findLabels_64 ?_
        refine jr_iinc [(4, .int (ii (v4 + 1))), (0, .ref (g 12)), (1, .int (ii v1)), (2, .int (ii v2)), (3, .ref (A.us v3 0))] 4 ok d_Gr_findLabels_65 rfl (by rw [hN]; decide) rfl ?_
        refine jr_goto 12 ok d_Gr_findLabels_68 (by decide) ?_
        exact jr_lv [1, 2, 3, 4, 0] rfl (ih12 v1 v2 v3 (v4 + 1) (WS.w_gr_labels S11 (aU S11.gr_labels ((v1 * 6) + v4) r11)) hv3 hs)
  show jw X 0 0 (wtL D g A c S) [(0, .ref (g 12)), (1, .int (ii v1)), (2, .int (ii v2))] 0 []
  rw [s_Gr_findLabels] at hs
  refine jr_aload_n ok 0 d_Gr_findLabels_0 rfl rfl ?_
  refine jr_get (v := .ref (g 2)) ok 15 f_Gr_28 rfl rfl d_Gr_findLabels_1 ?_
  refine jr_iload_n ok 1 d_Gr_findLabels_4 rfl rfl ?_
  obtain ⟨hb14, hs⟩ := oq_if hs
  refine jq_cV1 ok hR m_Gr_71 (r_St_find (jx_l X) D g A c S v1 hb14) (sg_atk 3 rfl) rfl rfl rfl (Nat.le_of_ble_eq_true rfl) ⟨Nat.le_of_ble_eq_true rfl, Nat.le_of_ble_eq_true rfl⟩ ⟨Nat.zero_le _, Nat.zero_le _⟩ d_Gr_findLabels_5 ?_
  show jw X 0 0 (wtL D g A c S) [(0, .ref (g 12)), (1, .int (ii v1)), (2, .int (ii v2))] 8 [.ref (A.us v1.toNat 0)]
  refine jr_astore_n [(3, .ref (A.us v1.toNat 0)), (0, .ref (g 12)), (1, .int (ii v1)), (2, .int (ii v2))] ok d_Gr_findLabels_8 rfl (by rw [hN]; decide) rfl ?_
  refine jr_iconst ok d_Gr_findLabels_9 ?_
  refine jr_istore [(4, .int (ii 0)), (3, .ref (A.us v1.toNat 0)), (0, .ref (g 12)), (1, .int (ii v1)), (2, .int (ii v2))] ok d_Gr_findLabels_10 (by rw [hN]; decide) rfl ?_
  exact jr_lv [2, 3, 4, 1, 0] rfl (B_12 fU v1 v2 v1.toNat 0 S (idx_lt hb14.1.1 hb14.1.2) hs)

def q_Gr_compare_33 (c : CW) : Nat → Int → Int → Nat → Nat → Int → WS → Option (Int × WS)
  | 0, _, _, _, _, _, _ => none
  | n + 1, v1, v2, v3, v4, v5, S => if w32 S.gr_nameCount ≤ w32 v5 then some (0, S) else mb2 (s_Gr_labelOf c S v1 v5) (fun r11 S11 => mb2 (s_Gr_labelOf c S11 v2 v5) (fun r12 S12 => mb2 (s_Se_compareValue c S12 v3 r11 v4 r12) (fun r13 S13 => if w32 r13 = 0 then (q_Gr_compare_33 c n) v1 v2 v3 v4 (v5 + 1) S13 else some (r13, S13))))

def s_Gr_compare (c : CW) (S : WS) (v1 : Int) (v2 : Int) : Option (Int × WS) := if ((0 : Int) ≤ v1 ∧ v1 < (c.N : Int)) ∧ c.N ≤ 256 then if ((0 : Int) ≤ v2 ∧ v2 < (c.N : Int)) ∧ c.N ≤ 256 then q_Gr_compare_33 c fU v1 v2 v1.toNat v2.toNat 0 S else none else none
set_option maxHeartbeats 4000000 in
set_option maxRecDepth 100000 in
theorem r_Gr_compare (l : Launch) (D : jd_T) (g : Nat → Nat) (A : AW) (c : CW) (S : WS) (v1 : Int) (v2 : Int) (r : Int) (S9 : WS)  (hs : s_Gr_compare c S v1 v2 = some (r, S9)) : jc_C l D y_Gr_compare b_Gr_compare 7 (some .int) { frames := 3, cells := 0, slots := 0, locals := 69 } [.ref (g 12), .int (ii v1), .int (ii v2)] (wtL D g A c S) (fun _ : Unit => (.returned (some (.int (ii r))), True, wtL D g A c S9)) := by
  refine jc_of rfl (Nat.le_of_ble_eq_true rfl) ?_
  intro X hl hR hN ok hnm fin
  subst hl
  have B_33 : ∀ (n33 : Nat), ∀ (v1 : Int) (v2 : Int) (v3 : Nat) (v4 : Nat) (v5 : Int) (S : WS), v3 < c.N → v4 < c.N → q_Gr_compare_33 c n33 v1 v2 v3 v4 v5 S = some (r, S9) → jw X 0 0 (wtL D g A c S) [(0, .ref (g 12)), (1, .int (ii v1)), (2, .int (ii v2)), (3, .ref (A.us v3 0)), (4, .ref (A.us v4 0)), (5, .int (ii v5))] 33 [] := by
    intro n33
    induction n33 with
    | zero =>
      intro v1 v2 v3 v4 v5 S hv3 hv4 hs
      rw [q_Gr_compare_33] at hs; cases hs
    | succ n33 ih33 =>
      intro v1 v2 v3 v4 v5 S hv3 hv4 hs
      rw [q_Gr_compare_33] at hs
      refine jr_iload ok 5 d_Gr_compare_33 rfl ?_
      refine jr_aload_n ok 0 d_Gr_compare_35 rfl rfl ?_
      refine jr_get (v := .int (ii S.gr_nameCount)) ok 15 f_Gr_36 rfl rfl d_Gr_compare_36 ?_
      refine jr_wicmp_ge 78 ok rfl rfl d_Gr_compare_39 (by decide) (fun c10 => ?_) (fun c10 => ?_)
      · replace hs := oq_pos c10 hs
        refine jr_iconst ok d_Gr_compare_78 ?_
        exact jm_iret (Lf := wtL D g A c) ok fin hs d_Gr_compare_79
      · replace hs := oq_neg c10 hs
        refine jr_aload_n ok 3 d_Gr_compare_42 rfl rfl ?_
        refine jr_aload_n ok 0 d_Gr_compare_43 rfl rfl ?_
        refine jr_iload_n ok 1 d_Gr_compare_44 rfl rfl ?_
        refine jr_iload ok 5 d_Gr_compare_45 rfl ?_
        obtain ⟨r11, S11, hc11, hs⟩ := mb2_some hs
        refine jq_cV1 ok hR m_Gr_93 (r_Gr_labelOf (jx_l X) D g A c S v1 v5 r11 S11  hc11) (sg_atk 15 rfl) rfl rfl rfl (Nat.le_of_ble_eq_true rfl) ⟨Nat.le_of_ble_eq_true rfl, Nat.le_of_ble_eq_true rfl⟩ ⟨Nat.zero_le _, Nat.zero_le _⟩ d_Gr_compare_47 ?_
        show jw X 0 0 (wtL D g A c S11) [(0, .ref (g 12)), (1, .int (ii v1)), (2, .int (ii v2)), (3, .ref (A.us v3 0)), (4, .ref (A.us v4 0)), (5, .int (ii v5))] 50 [.int (ii r11), .ref (A.us v3 0)]
        refine jr_aload ok 4 d_Gr_compare_50 rfl ?_
        refine jr_aload_n ok 0 d_Gr_compare_52 rfl rfl ?_
        refine jr_iload_n ok 2 d_Gr_compare_53 rfl rfl ?_
        refine jr_iload ok 5 d_Gr_compare_54 rfl ?_
        obtain ⟨r12, S12, hc12, hs⟩ := mb2_some hs
        refine jq_cV1 ok hR m_Gr_93 (r_Gr_labelOf (jx_l X) D g A c S11 v2 v5 r12 S12  hc12) (sg_atk 15 rfl) rfl rfl rfl (Nat.le_of_ble_eq_true rfl) ⟨Nat.le_of_ble_eq_true rfl, Nat.le_of_ble_eq_true rfl⟩ ⟨Nat.zero_le _, Nat.zero_le _⟩ d_Gr_compare_56 ?_
        show jw X 0 0 (wtL D g A c S12) [(0, .ref (g 12)), (1, .int (ii v1)), (2, .int (ii v2)), (3, .ref (A.us v3 0)), (4, .ref (A.us v4 0)), (5, .int (ii v5))] 59 [.int (ii r12), .ref (A.us v4 0), .int (ii r11), .ref (A.us v3 0)]
        obtain ⟨r13, S13, hc13, hs⟩ := mb2_some hs
        refine jq_cV1 ok hR m_Gr_96 (r_Se_compareValue (jx_l X) D g A c S12 v3 r11 v4 r12 r13 S13 hv3 hv4 hc13) (sg_atp (F := serW D A c S12) 5 rfl hv3 0 rfl) rfl rfl rfl (Nat.le_of_ble_eq_true rfl) ⟨Nat.le_of_ble_eq_true rfl, Nat.le_of_ble_eq_true rfl⟩ ⟨Nat.zero_le _, Nat.zero_le _⟩ d_Gr_compare_59 ?_
        show jw X 0 0 (wtL D g A c S13) [(0, .ref (g 12)), (1, .int (ii v1)), (2, .int (ii v2)), (3, .ref (A.us v3 0)), (4, .ref (A.us v4 0)), (5, .int (ii v5))] 62 [.int (ii r13)]
        refine jr_istore [(6, .int (ii r13)), (0, .ref (g 12)), (1, .int (ii v1)), (2, .int (ii v2)), (3, .ref (A.us v3 0)), (4, .ref (A.us v4 0)), (5, .int (ii v5))] ok d_Gr_compare_62 (by rw [hN]; decide) rfl ?_
        refine jr_iload ok 0 d_Gr_compare_64 rfl ?_
        refine jr_wif_eq 72 ok rfl d_Gr_compare_66 (by decide) (fun c14 => ?_) (fun c14 => ?_)
        · replace hs := oq_pos c14 hs
          refine jr_iinc [(5, .int (ii (v5 + 1))), (6, .int (ii r13)), (0, .ref (g 12)), (1, .int (ii v1)), (2, .int (ii v2)), (3, .ref (A.us v3 0)), (4, .ref (A.us v4 0))] 6 ok d_Gr_compare_72 rfl (by rw [hN]; decide) rfl ?_
          refine jr_goto 33 ok d_Gr_compare_75 (by decide) ?_
          exact jr_lv [2, 3, 4, 5, 6, 0] rfl (ih33 v1 v2 v3 v4 (v5 + 1) S13 hv3 hv4 hs)
        · replace hs := oq_neg c14 hs
          refine jr_iload ok 0 d_Gr_compare_69 rfl ?_
          exact jm_iret (Lf := wtL D g A c) ok fin hs d_Gr_compare_71
  show jw X 0 0 (wtL D g A c S) [(0, .ref (g 12)), (1, .int (ii v1)), (2, .int (ii v2))] 0 []
  rw [s_Gr_compare] at hs
  refine jr_aload_n ok 0 d_Gr_compare_0 rfl rfl ?_
  refine jr_get (v := .ref (g 2)) ok 15 f_Gr_28 rfl rfl d_Gr_compare_1 ?_
  refine jr_iload_n ok 1 d_Gr_compare_4 rfl rfl ?_
  obtain ⟨hb16, hs⟩ := oq_if hs
  refine jq_cV1 ok hR m_Gr_71 (r_St_find (jx_l X) D g A c S v1 hb16) (sg_atk 3 rfl) rfl rfl rfl (Nat.le_of_ble_eq_true rfl) ⟨Nat.le_of_ble_eq_true rfl, Nat.le_of_ble_eq_true rfl⟩ ⟨Nat.zero_le _, Nat.zero_le _⟩ d_Gr_compare_5 ?_
  show jw X 0 0 (wtL D g A c S) [(0, .ref (g 12)), (1, .int (ii v1)), (2, .int (ii v2))] 8 [.ref (A.us v1.toNat 0)]
  refine jr_astore_n [(3, .ref (A.us v1.toNat 0)), (0, .ref (g 12)), (1, .int (ii v1)), (2, .int (ii v2))] ok d_Gr_compare_8 rfl (by rw [hN]; decide) rfl ?_
  refine jr_aload_n ok 1 d_Gr_compare_9 rfl rfl ?_
  refine jr_get (v := .ref (g 2)) ok 15 f_Gr_28 rfl rfl d_Gr_compare_10 ?_
  refine jr_iload_n ok 3 d_Gr_compare_13 rfl rfl ?_
  obtain ⟨hb18, hs⟩ := oq_if hs
  refine jq_cV1 ok hR m_Gr_71 (r_St_find (jx_l X) D g A c S v2 hb18) (sg_atk 3 rfl) rfl rfl rfl (Nat.le_of_ble_eq_true rfl) ⟨Nat.le_of_ble_eq_true rfl, Nat.le_of_ble_eq_true rfl⟩ ⟨Nat.zero_le _, Nat.zero_le _⟩ d_Gr_compare_14 ?_
  show jw X 0 0 (wtL D g A c S) [(3, .ref (A.us v1.toNat 0)), (0, .ref (g 12)), (1, .int (ii v1)), (2, .int (ii v2))] 17 [.ref (A.us v2.toNat 0)]
  refine jr_astore [(4, .ref (A.us v2.toNat 0)), (3, .ref (A.us v1.toNat 0)), (0, .ref (g 12)), (1, .int (ii v1)), (2, .int (ii v2))] ok d_Gr_compare_17 (by rw [hN]; decide) rfl ?_
  refine jr_aload_n ok 1 d_Gr_compare_19 rfl rfl ?_
  refine jr_ifnull_r ok d_Gr_compare_20 ?_
  refine jr_aload ok 0 d_Gr_compare_23 rfl ?_
  refine jr_ifnonnull_r 30 ok d_Gr_compare_25 (by decide) ?_
  refine jr_iconst ok d_Gr_compare_30 ?_
  refine jr_istore [(5, .int (ii 0)), (4, .ref (A.us v2.toNat 0)), (3, .ref (A.us v1.toNat 0)), (0, .ref (g 12)), (1, .int (ii v1)), (2, .int (ii v2))] ok d_Gr_compare_31 (by rw [hN]; decide) rfl ?_
  exact jr_lv [3, 4, 5, 2, 1, 0] rfl (B_33 fU v1 v2 v1.toNat v2.toNat 0 S (idx_lt hb16.1.1 hb16.1.2) (idx_lt hb18.1.1 hb18.1.2) hs)

def q_St_moveHorizon_54 (c : CW) (k10 : Int64 → Int → Int → WS → Option (Int × WS)) (v1 : Int64) (v3 : Int) (v4 : Int) (S : WS) : Option (Int × WS) := k10 v1 v3 (v4 + 1) S

def q_St_moveHorizon_10 (c : CW) : Nat → Int64 → Int → Int → WS → Option (Int × WS)
  | 0, _, _, _, _ => none
  | n + 1, v1, v3, v4, S => if w32 (c.N : Int) ≤ w32 v4 then some (v3, S) else if ((0 : Int) ≤ v4 ∧ v4 < (c.N : Int)) ∧ c.N ≤ 256 then mb2 (s_Se_points c S v4.toNat) (fun r13 S13 => if r13 < c.N then mb2 (s_Se_points c S13 v4.toNat) (fun r15 S15 => if r15 < c.N then mb2 (s_Pt_firstFrom c S15 r15 v1) (fun r17 S17 => mb2 (s_St_letGo c S17 r13 0 r17) (fun r18 S18 => q_St_moveHorizon_54 c (q_St_moveHorizon_10 c n) v1 (v3 + r18) v4 S18)) else none) else none) else none

def s_St_moveHorizon (c : CW) (S : WS) (v1 : Int64) : Option (Int × WS) := q_St_moveHorizon_10 c fU v1 0 0 (WS.w_st_horizon S v1)
set_option maxHeartbeats 4000000 in
set_option maxRecDepth 100000 in
theorem r_St_moveHorizon (l : Launch) (D : jd_T) (g : Nat → Nat) (A : AW) (c : CW) (S : WS) (v1 : Int64) (r : Int) (S9 : WS)  (hs : s_St_moveHorizon c S v1 = some (r, S9)) : jc_C l D y_St_moveHorizon b_St_moveHorizon 6 (some .int) { frames := 4, cells := 0, slots := 0, locals := 97 } [.ref (g 2), .long v1] (wtL D g A c S) (fun _ : Unit => (.returned (some (.int (ii r))), True, wtL D g A c S9)) := by
  refine jc_of rfl (Nat.le_of_ble_eq_true rfl) ?_
  intro X hl hR hN ok hnm fin
  subst hl
  have B_10 : ∀ (n10 : Nat), ∀ (v1 : Int64) (v3 : Int) (v4 : Int) (S : WS), q_St_moveHorizon_10 c n10 v1 v3 v4 S = some (r, S9) → jw X 0 0 (wtL D g A c S) [(0, .ref (g 2)), (1, .long v1), (3, .int (ii v3)), (4, .int (ii v4))] 10 [] := by
    intro n10
    induction n10 with
    | zero =>
      intro v1 v3 v4 S hs
      rw [q_St_moveHorizon_10] at hs; cases hs
    | succ n10 ih10 =>
      have B_54 : ∀ (v1 : Int64) (v3 : Int) (v4 : Int) (S : WS), q_St_moveHorizon_54 c (q_St_moveHorizon_10 c n10) v1 v3 v4 S = some (r, S9) → jw X 0 0 (wtL D g A c S) [(0, .ref (g 2)), (1, .long v1), (3, .int (ii v3)), (4, .int (ii v4))] 54 [] := by
        intro v1 v3 v4 S hs
        rw [q_St_moveHorizon_54] at hs
        refine jr_iinc [(4, .int (ii (v4 + 1))), (0, .ref (g 2)), (1, .long v1), (3, .int (ii v3))] 3 ok d_St_moveHorizon_54 rfl (by rw [hN]; decide) rfl ?_
        refine jr_goto 10 ok d_St_moveHorizon_57 (by decide) ?_
        exact jr_lv [1, 2, 3, 0] rfl (ih10 v1 v3 (v4 + 1) S hs)
      intro v1 v3 v4 S hs
      rw [q_St_moveHorizon_10] at hs
      refine jr_iload ok 3 d_St_moveHorizon_10 rfl ?_
      refine jr_aload_n ok 0 d_St_moveHorizon_12 rfl rfl ?_
      refine jr_get (v := .int (ii (c.N : Int))) ok 3 f_St_17 rfl rfl d_St_moveHorizon_13 ?_
      refine jr_wicmp_ge 60 ok rfl rfl d_St_moveHorizon_16 (by decide) (fun c10 => ?_) (fun c10 => ?_)
      · replace hs := oq_pos c10 hs
        refine jr_iload_n ok 2 d_St_moveHorizon_60 rfl rfl ?_
        exact jm_iret (Lf := wtL D g A c) ok fin hs d_St_moveHorizon_61
      · replace hs := oq_neg c10 hs
        refine jr_aload_n ok 0 d_St_moveHorizon_19 rfl rfl ?_
        refine jr_iload ok 3 d_St_moveHorizon_20 rfl ?_
        obtain ⟨hb12, hs⟩ := oq_if hs
        refine jq_cV1 ok hR m_St_21 (r_St_find (jx_l X) D g A c S v4 hb12) (sg_atk 3 rfl) rfl rfl rfl (Nat.le_of_ble_eq_true rfl) ⟨Nat.le_of_ble_eq_true rfl, Nat.le_of_ble_eq_true rfl⟩ ⟨Nat.zero_le _, Nat.zero_le _⟩ d_St_moveHorizon_22 ?_
        show jw X 0 0 (wtL D g A c S) [(0, .ref (g 2)), (1, .long v1), (3, .int (ii v3)), (4, .int (ii v4))] 25 [.ref (A.us v4.toNat 0)]
        refine jr_astore [(5, .ref (A.us v4.toNat 0)), (0, .ref (g 2)), (1, .long v1), (3, .int (ii v3)), (4, .int (ii v4))] ok d_St_moveHorizon_25 (by rw [hN]; decide) rfl ?_
        refine jr_aload ok 0 d_St_moveHorizon_27 rfl ?_
        refine jr_ifnull_r ok d_St_moveHorizon_29 ?_
        refine jr_iload_n ok 3 d_St_moveHorizon_32 rfl rfl ?_
        refine jr_aload_n ok 1 d_St_moveHorizon_33 rfl rfl ?_
        refine jr_aload ok 0 d_St_moveHorizon_34 rfl ?_
        obtain ⟨r13, S13, hc13, hs⟩ := mb2_some hs
        refine jq_cV1 ok hR m_St_46 (r_Se_points (jx_l X) D g A c S v4.toNat r13 S13 (idx_lt hb12.1.1 hb12.1.2) hc13) (sg_atp (F := serW D A c S) 5 rfl (idx_lt hb12.1.1 hb12.1.2) 0 rfl) rfl rfl rfl (Nat.le_of_ble_eq_true rfl) ⟨Nat.le_of_ble_eq_true rfl, Nat.le_of_ble_eq_true rfl⟩ ⟨Nat.zero_le _, Nat.zero_le _⟩ d_St_moveHorizon_36 ?_
        obtain ⟨hb14, hs⟩ := oq_if hs
        show jw X 0 0 (wtL D g A c S13) [(5, .ref (A.us v4.toNat 0)), (0, .ref (g 2)), (1, .long v1), (3, .int (ii v3)), (4, .int (ii v4))] 39 [.ref (A.us r13 5), .ref (g 2), .int (ii v3)]
        refine jr_iconst ok d_St_moveHorizon_39 ?_
        refine jr_aload ok 0 d_St_moveHorizon_40 rfl ?_
        obtain ⟨r15, S15, hc15, hs⟩ := mb2_some hs
        refine jq_cV1 ok hR m_St_46 (r_Se_points (jx_l X) D g A c S13 v4.toNat r15 S15 (idx_lt hb12.1.1 hb12.1.2) hc15) (sg_atp (F := serW D A c S13) 5 rfl (idx_lt hb12.1.1 hb12.1.2) 0 rfl) rfl rfl rfl (Nat.le_of_ble_eq_true rfl) ⟨Nat.le_of_ble_eq_true rfl, Nat.le_of_ble_eq_true rfl⟩ ⟨Nat.zero_le _, Nat.zero_le _⟩ d_St_moveHorizon_42 ?_
        obtain ⟨hb16, hs⟩ := oq_if hs
        show jw X 0 0 (wtL D g A c S15) [(5, .ref (A.us v4.toNat 0)), (0, .ref (g 2)), (1, .long v1), (3, .int (ii v3)), (4, .int (ii v4))] 45 [.ref (A.us r15 5), .int (ii 0), .ref (A.us r13 5), .ref (g 2), .int (ii v3)]
        refine jr_lload_n ok 2 d_St_moveHorizon_45 rfl rfl ?_
        obtain ⟨r17, S17, hc17, hs⟩ := mb2_some hs
        refine jq_cV1 ok hR m_St_77 (r_Pt_firstFrom (jx_l X) D g A c S15 r15 v1 r17 S17 hb16 hc17) (sg_atp (F := serW D A c S15) 5 rfl hb16 5 rfl) rfl rfl rfl (Nat.le_of_ble_eq_true rfl) ⟨Nat.le_of_ble_eq_true rfl, Nat.le_of_ble_eq_true rfl⟩ ⟨Nat.zero_le _, Nat.zero_le _⟩ d_St_moveHorizon_46 ?_
        show jw X 0 0 (wtL D g A c S17) [(5, .ref (A.us v4.toNat 0)), (0, .ref (g 2)), (1, .long v1), (3, .int (ii v3)), (4, .int (ii v4))] 49 [.int (ii r17), .int (ii 0), .ref (A.us r13 5), .ref (g 2), .int (ii v3)]
        obtain ⟨r18, S18, hc18, hs⟩ := mb2_some hs
        refine jq_cV1 ok hR m_St_81 (r_St_letGo (jx_l X) D g A c S17 r13 0 r17 r18 S18 hb14 hc18) (sg_atk 3 rfl) rfl rfl rfl (Nat.le_of_ble_eq_true rfl) ⟨Nat.le_of_ble_eq_true rfl, Nat.le_of_ble_eq_true rfl⟩ ⟨Nat.zero_le _, Nat.zero_le _⟩ d_St_moveHorizon_49 ?_
        show jw X 0 0 (wtL D g A c S18) [(5, .ref (A.us v4.toNat 0)), (0, .ref (g 2)), (1, .long v1), (3, .int (ii v3)), (4, .int (ii v4))] 52 [.int (ii r18), .int (ii v3)]
        refine jr_iadd ok d_St_moveHorizon_52 ?_
        refine jr_istore_n [(3, .int (ii (v3 + r18))), (5, .ref (A.us v4.toNat 0)), (0, .ref (g 2)), (1, .long v1), (4, .int (ii v4))] ok d_St_moveHorizon_53 rfl (by rw [hN]; decide) rfl ?_
        exact jr_lv [2, 3, 0, 4] rfl (B_54 v1 (v3 + r18) v4 S18 hs)
  show jw X 0 0 (wtL D g A c S) [(0, .ref (g 2)), (1, .long v1)] 0 []
  rw [s_St_moveHorizon] at hs
  refine jr_aload_n ok 0 d_St_moveHorizon_0 rfl rfl ?_
  refine jr_lload_n ok 1 d_St_moveHorizon_1 rfl rfl ?_
  refine jr_put (wtL D g A c (WS.w_st_horizon S v1)) ok 3 f_St_33 rfl rfl rfl (Nat.le_of_ble_eq_true rfl) rfl d_St_moveHorizon_2 ?_
  refine jr_iconst ok d_St_moveHorizon_5 ?_
  refine jr_istore_n [(3, .int (ii 0)), (0, .ref (g 2)), (1, .long v1)] ok d_St_moveHorizon_6 rfl (by rw [hN]; decide) rfl ?_
  refine jr_iconst ok d_St_moveHorizon_7 ?_
  refine jr_istore [(4, .int (ii 0)), (3, .int (ii 0)), (0, .ref (g 2)), (1, .long v1)] ok d_St_moveHorizon_8 (by rw [hN]; decide) rfl ?_
  exact jr_lv [2, 3, 1, 0] rfl (B_10 fU v1 0 0 (WS.w_st_horizon S v1) hs)

def q_LR_read_19 (c : CW) : Nat → Int → Int → WS → Option (Int × WS)
  | 0, _, _, _ => none
  | n + 1, v2, v3, S => if 6 < w32 v3 then some (0, S) else mb2 (s_LR_readLabel c S v2) (fun r11 S11 => if w32 r11 = (-1) then some (0, S11) else mb2 (s_Tp_size c S11 ) (fun r13 S13 => if w32 r11 = w32 r13 then mb2 (s_LR_compose c S13 ) (fun r18 S18 => some (1, S18)) else mb2 (s_Tp_byteAt c S13 r11) (fun r15 S15 => if w32 r15 = 44 then (q_LR_read_19 c n) (r11 + 1) (v3 + 1) S15 else mb2 (s_LR_refuse c S15 7 r11) (fun r17 S17 => some (0, S17)))))

def s_LR_read (c : CW) (S : WS)  : Option (Int × WS) := q_LR_read_19 c fU 0 0 (WS.w_lr_faultPlace (WS.w_lr_faultCode (WS.w_lr_labels S 0) 0) 0)
set_option maxHeartbeats 4000000 in
set_option maxRecDepth 100000 in
theorem r_LR_read (l : Launch) (D : jd_T) (g : Nat → Nat) (A : AW) (c : CW) (S : WS)  (r : Int) (S9 : WS)  (hs : s_LR_read c S  = some (r, S9)) : jc_C l D y_LR_read b_LR_read 5 (some .boolean) { frames := 4, cells := 0, slots := 0, locals := 99 } [.ref (g 4), .ref (g 1)] (wtL D g A c S) (fun _ : Unit => (.returned (some (.int (ii r))), True, wtL D g A c S9)) := by
  refine jc_of rfl (Nat.le_of_ble_eq_true rfl) ?_
  intro X hl hR hN ok hnm fin
  subst hl
  have B_19 : ∀ (n19 : Nat), ∀ (v2 : Int) (v3 : Int) (S : WS), q_LR_read_19 c n19 v2 v3 S = some (r, S9) → jw X 0 0 (wtL D g A c S) [(0, .ref (g 4)), (1, .ref (g 1)), (2, .int (ii v2)), (3, .int (ii v3))] 19 [] := by
    intro n19
    induction n19 with
    | zero =>
      intro v2 v3 S hs
      rw [q_LR_read_19] at hs; cases hs
    | succ n19 ih19 =>
      intro v2 v3 S hs
      rw [q_LR_read_19] at hs
      refine jr_iload_n ok 3 d_LR_read_19 rfl rfl ?_
      refine jr_bipush ok d_LR_read_20 (by decide +kernel) ?_
      refine jr_wicmp_gt 90 ok rfl (show w32 6 = 6 by decide) d_LR_read_22 (by decide) (fun c10 => ?_) (fun c10 => ?_)
      · replace hs := oq_pos c10 hs
        refine jr_iconst ok d_LR_read_90 ?_
        exact jm_zret (Lf := wtL D g A c) ok (by decide +kernel) fin hs d_LR_read_91
      · replace hs := oq_neg c10 hs
        refine jr_aload_n ok 0 d_LR_read_25 rfl rfl ?_
        refine jr_aload_n ok 1 d_LR_read_26 rfl rfl ?_
        refine jr_iload_n ok 2 d_LR_read_27 rfl rfl ?_
        obtain ⟨r11, S11, hc11, hs⟩ := mb2_some hs
        refine jq_cV1 ok hR m_LR_38 (r_LR_readLabel (jx_l X) D g A c S v2 r11 S11  hc11) (sg_atk 6 rfl) rfl rfl rfl (Nat.le_of_ble_eq_true rfl) ⟨Nat.le_of_ble_eq_true rfl, Nat.le_of_ble_eq_true rfl⟩ ⟨Nat.zero_le _, Nat.zero_le _⟩ d_LR_read_28 ?_
        show jw X 0 0 (wtL D g A c S11) [(0, .ref (g 4)), (1, .ref (g 1)), (2, .int (ii v2)), (3, .int (ii v3))] 31 [.int (ii r11)]
        refine jr_istore [(4, .int (ii r11)), (0, .ref (g 4)), (1, .ref (g 1)), (2, .int (ii v2)), (3, .int (ii v3))] ok d_LR_read_31 (by rw [hN]; decide) rfl ?_
        refine jr_iload ok 0 d_LR_read_33 rfl ?_
        refine jr_iconst ok d_LR_read_35 ?_
        refine jr_wicmp_ne 41 ok rfl (show w32 (-1) = (-1) by decide) d_LR_read_36 (by decide) (fun c12 => ?_) (fun c12 => ?_)
        · replace hs := oq_neg c12 hs
          refine jr_iload ok 0 d_LR_read_41 rfl ?_
          refine jr_aload_n ok 2 d_LR_read_43 rfl rfl ?_
          obtain ⟨r13, S13, hc13, hs⟩ := mb2_some hs
          refine jq_cV1 ok hR m_LR_42 (r_Tp_size (jx_l X) D g A c S11  r13 S13  hc13) (sg_atk 1 rfl) rfl rfl rfl (Nat.le_of_ble_eq_true rfl) ⟨Nat.le_of_ble_eq_true rfl, Nat.le_of_ble_eq_true rfl⟩ ⟨Nat.zero_le _, Nat.zero_le _⟩ d_LR_read_44 ?_
          show jw X 0 0 (wtL D g A c S13) [(4, .int (ii r11)), (0, .ref (g 4)), (1, .ref (g 1)), (2, .int (ii v2)), (3, .int (ii v3))] 47 [.int (ii r13), .int (ii r11)]
          refine jr_wicmp_ne 57 ok rfl rfl d_LR_read_47 (by decide) (fun c14 => ?_) (fun c14 => ?_)
          · replace hs := oq_neg c14 hs
            refine jr_aload_n ok 2 d_LR_read_57 rfl rfl ?_
            refine jr_iload ok 0 d_LR_read_58 rfl ?_
            obtain ⟨r15, S15, hc15, hs⟩ := mb2_some hs
            refine jq_cV1 ok hR m_LR_52 (r_Tp_byteAt (jx_l X) D g A c S13 r11 r15 S15  hc15) (sg_atk 1 rfl) rfl rfl rfl (Nat.le_of_ble_eq_true rfl) ⟨Nat.le_of_ble_eq_true rfl, Nat.le_of_ble_eq_true rfl⟩ ⟨Nat.zero_le _, Nat.zero_le _⟩ d_LR_read_60 ?_
            show jw X 0 0 (wtL D g A c S15) [(4, .int (ii r11)), (0, .ref (g 4)), (1, .ref (g 1)), (2, .int (ii v2)), (3, .int (ii v3))] 63 [.int (ii r15)]
            refine jr_bipush ok d_LR_read_63 (by decide +kernel) ?_
            refine jr_wicmp_eq 79 ok rfl (show w32 44 = 44 by decide) d_LR_read_65 (by decide) (fun c16 => ?_) (fun c16 => ?_)
            · replace hs := oq_pos c16 hs
              refine jr_iload ok 0 d_LR_read_79 rfl ?_
              refine jr_iconst ok d_LR_read_81 ?_
              refine jr_iadd ok d_LR_read_82 ?_
              refine jr_istore_n [(2, .int (ii (r11 + 1))), (4, .int (ii r11)), (0, .ref (g 4)), (1, .ref (g 1)), (3, .int (ii v3))] ok d_LR_read_83 rfl (by rw [hN]; decide) rfl ?_
              refine jr_iinc [(3, .int (ii (v3 + 1))), (2, .int (ii (r11 + 1))), (4, .int (ii r11)), (0, .ref (g 4)), (1, .ref (g 1))] 4 ok d_LR_read_84 rfl (by rw [hN]; decide) rfl ?_
              refine jr_goto 19 ok d_LR_read_87 (by decide) ?_
              exact jr_lv [3, 4, 1, 0] rfl (ih19 (r11 + 1) (v3 + 1) S15 hs)
            · replace hs := oq_neg c16 hs
              refine jr_aload_n ok 1 d_LR_read_68 rfl rfl ?_
              refine jr_bipush ok d_LR_read_69 (by decide +kernel) ?_
              refine jr_iload ok 0 d_LR_read_71 rfl ?_
              obtain ⟨r17, S17, hc17, hs⟩ := mb2_some hs
              refine jq_cV1 ok hR m_LR_56 (r_LR_refuse (jx_l X) D g A c S15 7 r11 r17 S17  hc17) (sg_atk 6 rfl) rfl rfl rfl (Nat.le_of_ble_eq_true rfl) ⟨Nat.le_of_ble_eq_true rfl, Nat.le_of_ble_eq_true rfl⟩ ⟨Nat.zero_le _, Nat.zero_le _⟩ d_LR_read_73 ?_
              show jw X 0 0 (wtL D g A c S17) [(4, .int (ii r11)), (0, .ref (g 4)), (1, .ref (g 1)), (2, .int (ii v2)), (3, .int (ii v3))] 76 [.int (ii r17)]
              refine jr_pop rfl ok d_LR_read_76 ?_
              refine jr_iconst ok d_LR_read_77 ?_
              exact jm_zret (Lf := wtL D g A c) ok (by decide +kernel) fin hs d_LR_read_78
          · replace hs := oq_pos c14 hs
            refine jr_aload_n ok 1 d_LR_read_50 rfl rfl ?_
            refine jr_aload_n ok 2 d_LR_read_51 rfl rfl ?_
            obtain ⟨r18, S18, hc18, hs⟩ := mb2_some hs
            refine jq_cV0 ok hR m_LR_48 (r_LR_compose (jx_l X) D g A c S13  r18 S18  hc18) (sg_atk 6 rfl) rfl rfl rfl (Nat.le_of_ble_eq_true rfl) ⟨Nat.le_of_ble_eq_true rfl, Nat.le_of_ble_eq_true rfl⟩ ⟨Nat.zero_le _, Nat.zero_le _⟩ d_LR_read_52 ?_
            show jw X 0 0 (wtL D g A c S18) [(4, .int (ii r11)), (0, .ref (g 4)), (1, .ref (g 1)), (2, .int (ii v2)), (3, .int (ii v3))] 55 []
            refine jr_iconst ok d_LR_read_55 ?_
            exact jm_zret (Lf := wtL D g A c) ok (by decide +kernel) fin hs d_LR_read_56
        · replace hs := oq_pos c12 hs
          refine jr_iconst ok d_LR_read_39 ?_
          exact jm_zret (Lf := wtL D g A c) ok (by decide +kernel) fin hs d_LR_read_40
  show jw X 0 0 (wtL D g A c S) [(0, .ref (g 4)), (1, .ref (g 1))] 0 []
  rw [s_LR_read] at hs
  refine jr_aload_n ok 0 d_LR_read_0 rfl rfl ?_
  refine jr_iconst ok d_LR_read_1 ?_
  refine jr_put (wtL D g A c (WS.w_lr_labels S 0)) ok 6 f_LR_35 rfl rfl rfl (Nat.le_of_ble_eq_true rfl) rfl d_LR_read_2 ?_
  refine jr_aload_n ok 0 d_LR_read_5 rfl rfl ?_
  refine jr_iconst ok d_LR_read_6 ?_
  refine jr_put (wtL D g A c (WS.w_lr_faultCode (WS.w_lr_labels S 0) 0)) ok 6 f_LR_25 rfl rfl rfl (Nat.le_of_ble_eq_true rfl) rfl d_LR_read_7 ?_
  refine jr_aload_n ok 0 d_LR_read_10 rfl rfl ?_
  refine jr_iconst ok d_LR_read_11 ?_
  refine jr_put (wtL D g A c (WS.w_lr_faultPlace (WS.w_lr_faultCode (WS.w_lr_labels S 0) 0) 0)) ok 6 f_LR_29 rfl rfl rfl (Nat.le_of_ble_eq_true rfl) rfl d_LR_read_12 ?_
  refine jr_iconst ok d_LR_read_15 ?_
  refine jr_istore_n [(2, .int (ii 0)), (0, .ref (g 4)), (1, .ref (g 1))] ok d_LR_read_16 rfl (by rw [hN]; decide) rfl ?_
  refine jr_iconst ok d_LR_read_17 ?_
  refine jr_istore_n [(3, .int (ii 0)), (2, .int (ii 0)), (0, .ref (g 4)), (1, .ref (g 1))] ok d_LR_read_18 rfl (by rw [hN]; decide) rfl ?_
  exact jr_lv [2, 3, 1, 0] rfl (B_19 fU 0 0 (WS.w_lr_faultPlace (WS.w_lr_faultCode (WS.w_lr_labels S 0) 0) 0) hs)

def q_Gr_putInOrder_58 (c : CW) (v1 : Int) (v2 : Int) (S : WS) : Option (Unit × WS) := if (0 : Int) ≤ v2 ∧ (0 : Int) ≤ (v2 + 1) ∧ (0 : Int) ≤ (v1 - v2) ∧ v2 + (v1 - v2) ≤ (256 : Int) ∧ (v2 + 1) + (v1 - v2) ≤ (256 : Int) then if (0 : Int) ≤ v2 ∧ v2 < (256 : Int) then some ((), WS.w_gr_order S (aU (aC S.gr_order v2 (v2 + 1) (v1 - v2)) v2 v1)) else none else none

def q_Gr_putInOrder_52 (c : CW) (k7 : Int → Int → Int → Int → WS → Option (Unit × WS)) (v1 : Int) (v2 : Int) (v3 : Int) (v4 : Int) (S : WS) : Option (Unit × WS) := k7 v1 v2 v3 (v4 + 1) S

def q_Gr_putInOrder_7 (c : CW) : Nat → Int → Int → Int → Int → WS → Option (Unit × WS)
  | 0, _, _, _, _, _ => none
  | n + 1, v1, v2, v3, v4, S => if 32 ≤ w32 v4 then q_Gr_putInOrder_58 c v1 v2 S else if w32 v3 ≤ w32 v2 then q_Gr_putInOrder_58 c v1 v2 S else if (0 : Int) ≤ (gDiv (v2 + v3) 2) ∧ (gDiv (v2 + v3) 2) < (256 : Int) then mb2 (s_Gr_compare c S (S.gr_order (gDiv (v2 + v3) 2)) v1) (fun r11 S11 => if 0 < w32 r11 then q_Gr_putInOrder_52 c (q_Gr_putInOrder_7 c n) v1 v2 (gDiv (v2 + v3) 2) v4 S11 else q_Gr_putInOrder_52 c (q_Gr_putInOrder_7 c n) v1 ((gDiv (v2 + v3) 2) + 1) v3 v4 S11) else none

def s_Gr_putInOrder (c : CW) (S : WS) (v1 : Int) : Option (Unit × WS) := q_Gr_putInOrder_7 c fU v1 0 v1 0 S
set_option maxHeartbeats 4000000 in
set_option maxRecDepth 100000 in
theorem r_Gr_putInOrder (l : Launch) (D : jd_T) (g : Nat → Nat) (A : AW) (c : CW) (S : WS) (v1 : Int) (r : Unit) (S9 : WS)  (hs : s_Gr_putInOrder c S v1 = some (r, S9)) : jc_C l D y_Gr_putInOrder b_Gr_putInOrder 6 none { frames := 4, cells := 0, slots := 0, locals := 95 } [.ref (g 12), .int (ii v1)] (wtL D g A c S) (fun _ : Unit => (.returned (none), True, wtL D g A c S9)) := by
  refine jc_of rfl (Nat.le_of_ble_eq_true rfl) ?_
  intro X hl hR hN ok hnm fin
  subst hl
  have B_58 : ∀ (v1 : Int) (v2 : Int) (S : WS), q_Gr_putInOrder_58 c v1 v2 S = some (r, S9) → jw X 0 0 (wtL D g A c S) [(0, .ref (g 12)), (1, .int (ii v1)), (2, .int (ii v2))] 58 [] := by
    intro v1 v2 S hs
    rw [q_Gr_putInOrder_58] at hs
    refine jr_aload_n ok 0 d_Gr_putInOrder_58 rfl rfl ?_
    refine jr_get (v := .ref (g 14)) ok 15 f_Gr_15 rfl rfl d_Gr_putInOrder_59 ?_
    refine jr_iload_n ok 2 d_Gr_putInOrder_62 rfl rfl ?_
    refine jr_aload_n ok 0 d_Gr_putInOrder_63 rfl rfl ?_
    refine jr_get (v := .ref (g 14)) ok 15 f_Gr_15 rfl rfl d_Gr_putInOrder_64 ?_
    refine jr_iload_n ok 2 d_Gr_putInOrder_67 rfl rfl ?_
    refine jr_iconst ok d_Gr_putInOrder_68 ?_
    refine jr_iadd ok d_Gr_putInOrder_69 ?_
    refine jr_iload_n ok 1 d_Gr_putInOrder_70 rfl rfl ?_
    refine jr_iload_n ok 2 d_Gr_putInOrder_71 rfl rfl ?_
    refine jr_isub ok d_Gr_putInOrder_72 ?_
    obtain ⟨hb13, hs⟩ := oq_if hs
    refine jr_copy1i (wtL D g A c (WS.w_gr_order S (aC S.gr_order v2 (v2 + 1) (v1 - v2)))) ok hR w_1073 w_406 w_405 w_18 17 rfl rfl rfl hb13.1 hb13.2.1 hb13.2.2.1 hb13.2.2.2.1 hb13.2.2.2.2 (fun _ _ _ => rfl) ⟨Nat.le_of_ble_eq_true rfl, Nat.le_of_ble_eq_true rfl⟩ (Nat.le_of_ble_eq_true rfl) rfl d_Gr_putInOrder_73 ?_
    refine jr_aload_n ok 0 d_Gr_putInOrder_76 rfl rfl ?_
    refine jr_get (v := .ref (g 14)) ok 15 f_Gr_15 rfl rfl d_Gr_putInOrder_77 ?_
    refine jr_iload_n ok 2 d_Gr_putInOrder_80 rfl rfl ?_
    refine jr_iload_n ok 1 d_Gr_putInOrder_81 rfl rfl ?_
    obtain ⟨hb14, hs⟩ := oq_if hs
    refine jr_iast (wtL D g A c (WS.w_gr_order S (aU (aC S.gr_order v2 (v2 + 1) (v1 - v2)) v2 v1))) ok 17 rfl rfl hb14.1 hb14.2  rfl d_Gr_putInOrder_82 ?_
    exact jm_vret (Lf := wtL D g A c) ok fin hs d_Gr_putInOrder_83
  have B_7 : ∀ (n7 : Nat), ∀ (v1 : Int) (v2 : Int) (v3 : Int) (v4 : Int) (S : WS), q_Gr_putInOrder_7 c n7 v1 v2 v3 v4 S = some (r, S9) → jw X 0 0 (wtL D g A c S) [(0, .ref (g 12)), (1, .int (ii v1)), (2, .int (ii v2)), (3, .int (ii v3)), (4, .int (ii v4))] 7 [] := by
    intro n7
    induction n7 with
    | zero =>
      intro v1 v2 v3 v4 S hs
      rw [q_Gr_putInOrder_7] at hs; cases hs
    | succ n7 ih7 =>
      have B_52 : ∀ (v1 : Int) (v2 : Int) (v3 : Int) (v4 : Int) (S : WS), q_Gr_putInOrder_52 c (q_Gr_putInOrder_7 c n7) v1 v2 v3 v4 S = some (r, S9) → jw X 0 0 (wtL D g A c S) [(0, .ref (g 12)), (1, .int (ii v1)), (2, .int (ii v2)), (3, .int (ii v3)), (4, .int (ii v4))] 52 [] := by
        intro v1 v2 v3 v4 S hs
        rw [q_Gr_putInOrder_52] at hs
        refine jr_iinc [(4, .int (ii (v4 + 1))), (0, .ref (g 12)), (1, .int (ii v1)), (2, .int (ii v2)), (3, .int (ii v3))] 4 ok d_Gr_putInOrder_52 rfl (by rw [hN]; decide) rfl ?_
        refine jr_goto 7 ok d_Gr_putInOrder_55 (by decide) ?_
        exact jr_lv [1, 2, 3, 4, 0] rfl (ih7 v1 v2 v3 (v4 + 1) S hs)
      intro v1 v2 v3 v4 S hs
      rw [q_Gr_putInOrder_7] at hs
      refine jr_iload ok 4 d_Gr_putInOrder_7 rfl ?_
      refine jr_bipush ok d_Gr_putInOrder_9 (by decide +kernel) ?_
      refine jr_wicmp_ge 58 ok rfl (show w32 32 = 32 by decide) d_Gr_putInOrder_11 (by decide) (fun c8 => ?_) (fun c8 => ?_)
      · replace hs := oq_pos c8 hs
        exact jr_lv [0, 1, 2] rfl (B_58 v1 v2 S hs)
      · replace hs := oq_neg c8 hs
        refine jr_iload_n ok 2 d_Gr_putInOrder_14 rfl rfl ?_
        refine jr_iload_n ok 3 d_Gr_putInOrder_15 rfl rfl ?_
        refine jr_wicmp_ge 58 ok rfl rfl d_Gr_putInOrder_16 (by decide) (fun c9 => ?_) (fun c9 => ?_)
        · replace hs := oq_pos c9 hs
          exact jr_lv [0, 1, 2] rfl (B_58 v1 v2 S hs)
        · replace hs := oq_neg c9 hs
          refine jr_iload_n ok 2 d_Gr_putInOrder_19 rfl rfl ?_
          refine jr_iload_n ok 3 d_Gr_putInOrder_20 rfl rfl ?_
          refine jr_iadd ok d_Gr_putInOrder_21 ?_
          refine jr_iconst ok d_Gr_putInOrder_22 ?_
          refine jr_idiv (z := gDiv (v2 + v3) 2) ok d_Gr_putInOrder_23 (by decide +kernel) (ii_of _).symm ?_
          refine jr_istore [(5, .int (ii (gDiv (v2 + v3) 2))), (0, .ref (g 12)), (1, .int (ii v1)), (2, .int (ii v2)), (3, .int (ii v3)), (4, .int (ii v4))] ok d_Gr_putInOrder_24 (by rw [hN]; decide) rfl ?_
          refine jr_aload_n ok 1 d_Gr_putInOrder_26 rfl rfl ?_
          refine jr_aload_n ok 1 d_Gr_putInOrder_27 rfl rfl ?_
          refine jr_get (v := .ref (g 14)) ok 15 f_Gr_15 rfl rfl d_Gr_putInOrder_28 ?_
          refine jr_iload ok 0 d_Gr_putInOrder_31 rfl ?_
          obtain ⟨hb10, hs⟩ := oq_if hs
          refine jr_iald ok 17 rfl rfl hb10.1 hb10.2 d_Gr_putInOrder_33 ?_
          refine jr_iload_n ok 2 d_Gr_putInOrder_34 rfl rfl ?_
          obtain ⟨r11, S11, hc11, hs⟩ := mb2_some hs
          refine jq_cV1 ok hR m_Gr_68 (r_Gr_compare (jx_l X) D g A c S (S.gr_order (gDiv (v2 + v3) 2)) v1 r11 S11  hc11) (sg_atk 15 rfl) rfl rfl rfl (Nat.le_of_ble_eq_true rfl) ⟨Nat.le_of_ble_eq_true rfl, Nat.le_of_ble_eq_true rfl⟩ ⟨Nat.zero_le _, Nat.zero_le _⟩ d_Gr_putInOrder_35 ?_
          show jw X 0 0 (wtL D g A c S11) [(5, .int (ii (gDiv (v2 + v3) 2))), (0, .ref (g 12)), (1, .int (ii v1)), (2, .int (ii v2)), (3, .int (ii v3)), (4, .int (ii v4))] 38 [.int (ii r11)]
          refine jr_wif_gt 49 ok rfl d_Gr_putInOrder_38 (by decide) (fun c12 => ?_) (fun c12 => ?_)
          · replace hs := oq_pos c12 hs
            refine jr_iload ok 0 d_Gr_putInOrder_49 rfl ?_
            refine jr_istore_n [(3, .int (ii (gDiv (v2 + v3) 2))), (5, .int (ii (gDiv (v2 + v3) 2))), (0, .ref (g 12)), (1, .int (ii v1)), (2, .int (ii v2)), (4, .int (ii v4))] ok d_Gr_putInOrder_51 rfl (by rw [hN]; decide) rfl ?_
            exact jr_lv [2, 3, 4, 0, 5] rfl (B_52 v1 v2 (gDiv (v2 + v3) 2) v4 S11 hs)
          · replace hs := oq_neg c12 hs
            refine jr_iload ok 0 d_Gr_putInOrder_41 rfl ?_
            refine jr_iconst ok d_Gr_putInOrder_43 ?_
            refine jr_iadd ok d_Gr_putInOrder_44 ?_
            refine jr_istore_n [(2, .int (ii ((gDiv (v2 + v3) 2) + 1))), (5, .int (ii (gDiv (v2 + v3) 2))), (0, .ref (g 12)), (1, .int (ii v1)), (3, .int (ii v3)), (4, .int (ii v4))] ok d_Gr_putInOrder_45 rfl (by rw [hN]; decide) rfl ?_
            refine jr_goto 52 ok d_Gr_putInOrder_46 (by decide) ?_
            exact jr_lv [2, 3, 0, 4, 5] rfl (B_52 v1 ((gDiv (v2 + v3) 2) + 1) v3 v4 S11 hs)
  show jw X 0 0 (wtL D g A c S) [(0, .ref (g 12)), (1, .int (ii v1))] 0 []
  rw [s_Gr_putInOrder] at hs
  refine jr_iconst ok d_Gr_putInOrder_0 ?_
  refine jr_istore_n [(2, .int (ii 0)), (0, .ref (g 12)), (1, .int (ii v1))] ok d_Gr_putInOrder_1 rfl (by rw [hN]; decide) rfl ?_
  refine jr_iload_n ok 2 d_Gr_putInOrder_2 rfl rfl ?_
  refine jr_istore_n [(3, .int (ii v1)), (2, .int (ii 0)), (0, .ref (g 12)), (1, .int (ii v1))] ok d_Gr_putInOrder_3 rfl (by rw [hN]; decide) rfl ?_
  refine jr_iconst ok d_Gr_putInOrder_4 ?_
  refine jr_istore [(4, .int (ii 0)), (3, .int (ii v1)), (2, .int (ii 0)), (0, .ref (g 12)), (1, .int (ii v1))] ok d_Gr_putInOrder_5 (by rw [hN]; decide) rfl ?_
  exact jr_lv [3, 4, 2, 1, 0] rfl (B_7 fU v1 0 v1 0 S hs)

def q_Ev_matchesAll_2 (c : CW) : Nat → Nat → Int → Int → WS → Option (Int × WS)
  | 0, _, _, _, _ => none
  | n + 1, v1, v2, v3, S => mb2 (s_Pg_matchesOf c S v2) (fun r6 S6 => if w32 r6 ≤ w32 v3 then some (1, S6) else mb2 (s_Pg_matchOf c S6 v2 v3) (fun r8 S8 => mb2 (s_Ev_matches c S8 v1 r8) (fun r9 S9 => if w32 r9 = 0 then some (0, S9) else (q_Ev_matchesAll_2 c n) v1 v2 (v3 + 1) S9)))

def s_Ev_matchesAll (c : CW) (S : WS) (v1 : Nat) (v2 : Int) : Option (Int × WS) := q_Ev_matchesAll_2 c fU v1 v2 0 S
set_option maxHeartbeats 4000000 in
set_option maxRecDepth 100000 in
theorem r_Ev_matchesAll (l : Launch) (D : jd_T) (g : Nat → Nat) (A : AW) (c : CW) (S : WS) (v1 : Nat) (v2 : Int) (r : Int) (S9 : WS) (hv1 : v1 < c.N) (hs : s_Ev_matchesAll c S v1 v2 = some (r, S9)) : jc_C l D y_Ev_matchesAll b_Ev_matchesAll 4 (some .boolean) { frames := 4, cells := 0, slots := 0, locals := 96 } [.ref (g 17), .ref (A.us v1 0), .int (ii v2)] (wtL D g A c S) (fun _ : Unit => (.returned (some (.int (ii r))), True, wtL D g A c S9)) := by
  refine jc_of rfl (Nat.le_of_ble_eq_true rfl) ?_
  intro X hl hR hN ok hnm fin
  subst hl
  have B_2 : ∀ (n2 : Nat), ∀ (v1 : Nat) (v2 : Int) (v3 : Int) (S : WS), v1 < c.N → q_Ev_matchesAll_2 c n2 v1 v2 v3 S = some (r, S9) → jw X 0 0 (wtL D g A c S) [(0, .ref (g 17)), (1, .ref (A.us v1 0)), (2, .int (ii v2)), (3, .int (ii v3))] 2 [] := by
    intro n2
    induction n2 with
    | zero =>
      intro v1 v2 v3 S hv1 hs
      rw [q_Ev_matchesAll_2] at hs; cases hs
    | succ n2 ih2 =>
      intro v1 v2 v3 S hv1 hs
      rw [q_Ev_matchesAll_2] at hs
      refine jr_iload_n ok 3 d_Ev_matchesAll_2 rfl rfl ?_
      refine jr_aload_n ok 0 d_Ev_matchesAll_3 rfl rfl ?_
      refine jr_get (v := .ref (g 9)) ok 20 f_Ev_29 rfl rfl d_Ev_matchesAll_4 ?_
      refine jr_iload_n ok 2 d_Ev_matchesAll_7 rfl rfl ?_
      obtain ⟨r6, S6, hc6, hs⟩ := mb2_some hs
      refine jq_cV1 ok hR m_Ev_175 (r_Pg_matchesOf (jx_l X) D g A c S v2 r6 S6  hc6) (sg_atk 11 rfl) rfl rfl rfl (Nat.le_of_ble_eq_true rfl) ⟨Nat.le_of_ble_eq_true rfl, Nat.le_of_ble_eq_true rfl⟩ ⟨Nat.zero_le _, Nat.zero_le _⟩ d_Ev_matchesAll_8 ?_
      show jw X 0 0 (wtL D g A c S6) [(0, .ref (g 17)), (1, .ref (A.us v1 0)), (2, .int (ii v2)), (3, .int (ii v3))] 11 [.int (ii r6), .int (ii v3)]
      refine jr_wicmp_ge 39 ok rfl rfl d_Ev_matchesAll_11 (by decide) (fun c7 => ?_) (fun c7 => ?_)
      · replace hs := oq_pos c7 hs
        refine jr_iconst ok d_Ev_matchesAll_39 ?_
        exact jm_zret (Lf := wtL D g A c) ok (by decide +kernel) fin hs d_Ev_matchesAll_40
      · replace hs := oq_neg c7 hs
        refine jr_aload_n ok 0 d_Ev_matchesAll_14 rfl rfl ?_
        refine jr_aload_n ok 1 d_Ev_matchesAll_15 rfl rfl ?_
        refine jr_aload_n ok 0 d_Ev_matchesAll_16 rfl rfl ?_
        refine jr_get (v := .ref (g 9)) ok 20 f_Ev_29 rfl rfl d_Ev_matchesAll_17 ?_
        refine jr_iload_n ok 2 d_Ev_matchesAll_20 rfl rfl ?_
        refine jr_iload_n ok 3 d_Ev_matchesAll_21 rfl rfl ?_
        obtain ⟨r8, S8, hc8, hs⟩ := mb2_some hs
        refine jq_cV1 ok hR m_Ev_178 (r_Pg_matchOf (jx_l X) D g A c S6 v2 v3 r8 S8  hc8) (sg_atk 11 rfl) rfl rfl rfl (Nat.le_of_ble_eq_true rfl) ⟨Nat.le_of_ble_eq_true rfl, Nat.le_of_ble_eq_true rfl⟩ ⟨Nat.zero_le _, Nat.zero_le _⟩ d_Ev_matchesAll_22 ?_
        show jw X 0 0 (wtL D g A c S8) [(0, .ref (g 17)), (1, .ref (A.us v1 0)), (2, .int (ii v2)), (3, .int (ii v3))] 25 [.int (ii r8), .ref (A.us v1 0), .ref (g 17)]
        obtain ⟨r9, S9, hc9, hs⟩ := mb2_some hs
        refine jq_cV1 ok hR m_Ev_181 (r_Ev_matches (jx_l X) D g A c S8 v1 r8 r9 S9 hv1 hc9) (sg_atk 20 rfl) rfl rfl rfl (Nat.le_of_ble_eq_true rfl) ⟨Nat.le_of_ble_eq_true rfl, Nat.le_of_ble_eq_true rfl⟩ ⟨Nat.zero_le _, Nat.zero_le _⟩ d_Ev_matchesAll_25 ?_
        show jw X 0 0 (wtL D g A c S9) [(0, .ref (g 17)), (1, .ref (A.us v1 0)), (2, .int (ii v2)), (3, .int (ii v3))] 28 [.int (ii r9)]
        refine jr_wif_ne 33 ok rfl d_Ev_matchesAll_28 (by decide) (fun c10 => ?_) (fun c10 => ?_)
        · replace hs := oq_neg c10 hs
          refine jr_iinc [(3, .int (ii (v3 + 1))), (0, .ref (g 17)), (1, .ref (A.us v1 0)), (2, .int (ii v2))] 3 ok d_Ev_matchesAll_33 rfl (by rw [hN]; decide) rfl ?_
          refine jr_goto 2 ok d_Ev_matchesAll_36 (by decide) ?_
          exact jr_lv [1, 2, 3, 0] rfl (ih2 v1 v2 (v3 + 1) S9 hv1 hs)
        · replace hs := oq_pos c10 hs
          refine jr_iconst ok d_Ev_matchesAll_31 ?_
          exact jm_zret (Lf := wtL D g A c) ok (by decide +kernel) fin hs d_Ev_matchesAll_32
  show jw X 0 0 (wtL D g A c S) [(0, .ref (g 17)), (1, .ref (A.us v1 0)), (2, .int (ii v2))] 0 []
  rw [s_Ev_matchesAll] at hs
  refine jr_iconst ok d_Ev_matchesAll_0 ?_
  refine jr_istore_n [(3, .int (ii 0)), (0, .ref (g 17)), (1, .ref (A.us v1 0)), (2, .int (ii v2))] ok d_Ev_matchesAll_1 rfl (by rw [hN]; decide) rfl ?_
  exact jr_lv [1, 2, 3, 0] rfl (B_2 fU v1 v2 0 S hv1 hs)

def q_QR_join_10 (c : CW) (v1 : Int) (v2 : Int) (S : WS) : Option (Int × WS) := if w32 v1 = (-1) then some (v2, S) else some (v1, S)

def s_QR_join (c : CW) (S : WS) (v1 : Int) (v2 : Int) (v3 : Int) : Option (Int × WS) := if w32 v1 = (-1) then q_QR_join_10 c v1 v2 S else if w32 v2 = (-1) then q_QR_join_10 c v1 v2 S else if w32 S.qr_clashPlace = (-1) then mb2 (s_QR_haveSameNames c S v1 v2) (fun r11 S11 => if w32 r11 = 0 then some (v1, WS.w_qr_clashPlace S11 v3) else some (v1, S11)) else some (v1, S)
set_option maxHeartbeats 4000000 in
set_option maxRecDepth 100000 in
theorem r_QR_join (l : Launch) (D : jd_T) (g : Nat → Nat) (A : AW) (c : CW) (S : WS) (v1 : Int) (v2 : Int) (v3 : Int) (r : Int) (S9 : WS)  (hs : s_QR_join c S v1 v2 v3 = some (r, S9)) : jc_C l D y_QR_join b_QR_join 4 (some .int) { frames := 4, cells := 0, slots := 0, locals := 97 } [.ref (g 10), .int (ii v1), .int (ii v2), .int (ii v3)] (wtL D g A c S) (fun _ : Unit => (.returned (some (.int (ii r))), True, wtL D g A c S9)) := by
  refine jc_of rfl (Nat.le_of_ble_eq_true rfl) ?_
  intro X hl hR hN ok hnm fin
  subst hl
  have B_10 : ∀ (v1 : Int) (v2 : Int) (S : WS), q_QR_join_10 c v1 v2 S = some (r, S9) → jw X 0 0 (wtL D g A c S) [(1, .int (ii v1)), (2, .int (ii v2))] 10 [] := by
    intro v1 v2 S hs
    rw [q_QR_join_10] at hs
    refine jr_iload_n ok 0 d_QR_join_10 rfl rfl ?_
    refine jr_iconst ok d_QR_join_11 ?_
    refine jr_wicmp_ne 19 ok rfl (show w32 (-1) = (-1) by decide) d_QR_join_12 (by decide) (fun c7 => ?_) (fun c7 => ?_)
    · replace hs := oq_neg c7 hs
      refine jr_iload_n ok 0 d_QR_join_19 rfl rfl ?_
      exact jm_iret (Lf := wtL D g A c) ok fin hs d_QR_join_20
    · replace hs := oq_pos c7 hs
      refine jr_iload_n ok 1 d_QR_join_15 rfl rfl ?_
      refine jr_goto 20 ok d_QR_join_16 (by decide) ?_
      exact jm_iret (Lf := wtL D g A c) ok fin hs d_QR_join_20
  show jw X 0 0 (wtL D g A c S) [(0, .ref (g 10)), (1, .int (ii v1)), (2, .int (ii v2)), (3, .int (ii v3))] 0 []
  rw [s_QR_join] at hs
  refine jr_iload_n ok 1 d_QR_join_0 rfl rfl ?_
  refine jr_iconst ok d_QR_join_1 ?_
  refine jr_wicmp_eq 10 ok rfl (show w32 (-1) = (-1) by decide) d_QR_join_2 (by decide) (fun c8 => ?_) (fun c8 => ?_)
  · replace hs := oq_pos c8 hs
    exact jr_lv [1, 2] rfl (B_10 v1 v2 S hs)
  · replace hs := oq_neg c8 hs
    refine jr_iload_n ok 2 d_QR_join_5 rfl rfl ?_
    refine jr_iconst ok d_QR_join_6 ?_
    refine jr_wicmp_ne 21 ok rfl (show w32 (-1) = (-1) by decide) d_QR_join_7 (by decide) (fun c9 => ?_) (fun c9 => ?_)
    · replace hs := oq_neg c9 hs
      refine jr_aload_n ok 0 d_QR_join_21 rfl rfl ?_
      refine jr_get (v := .int (ii S.qr_clashPlace)) ok 13 f_QR_43 rfl rfl d_QR_join_22 ?_
      refine jr_iconst ok d_QR_join_25 ?_
      refine jr_wicmp_ne 43 ok rfl (show w32 (-1) = (-1) by decide) d_QR_join_26 (by decide) (fun c10 => ?_) (fun c10 => ?_)
      · replace hs := oq_neg c10 hs
        refine jr_iload_n ok 1 d_QR_join_43 rfl rfl ?_
        exact jm_iret (Lf := wtL D g A c) ok fin hs d_QR_join_44
      · replace hs := oq_pos c10 hs
        refine jr_aload_n ok 0 d_QR_join_29 rfl rfl ?_
        refine jr_iload_n ok 1 d_QR_join_30 rfl rfl ?_
        refine jr_iload_n ok 2 d_QR_join_31 rfl rfl ?_
        obtain ⟨r11, S11, hc11, hs⟩ := mb2_some hs
        refine jq_cV1 ok hR m_QR_95 (r_QR_haveSameNames (jx_l X) D g A c S v1 v2 r11 S11  hc11) (sg_atk 13 rfl) rfl rfl rfl (Nat.le_of_ble_eq_true rfl) ⟨Nat.le_of_ble_eq_true rfl, Nat.le_of_ble_eq_true rfl⟩ ⟨Nat.zero_le _, Nat.zero_le _⟩ d_QR_join_32 ?_
        show jw X 0 0 (wtL D g A c S11) [(0, .ref (g 10)), (1, .int (ii v1)), (2, .int (ii v2)), (3, .int (ii v3))] 35 [.int (ii r11)]
        refine jr_wif_ne 43 ok rfl d_QR_join_35 (by decide) (fun c12 => ?_) (fun c12 => ?_)
        · replace hs := oq_neg c12 hs
          refine jr_iload_n ok 1 d_QR_join_43 rfl rfl ?_
          exact jm_iret (Lf := wtL D g A c) ok fin hs d_QR_join_44
        · replace hs := oq_pos c12 hs
          refine jr_aload_n ok 0 d_QR_join_38 rfl rfl ?_
          refine jr_iload_n ok 3 d_QR_join_39 rfl rfl ?_
          refine jr_put (wtL D g A c (WS.w_qr_clashPlace S11 v3)) ok 13 f_QR_43 rfl rfl rfl (Nat.le_of_ble_eq_true rfl) rfl d_QR_join_40 ?_
          refine jr_iload_n ok 1 d_QR_join_43 rfl rfl ?_
          exact jm_iret (Lf := wtL D g A c) ok fin hs d_QR_join_44
    · replace hs := oq_pos c9 hs
      exact jr_lv [1, 2] rfl (B_10 v1 v2 S hs)

def q_Gr_form_134 (c : CW) (k79 : Int → Int → WS → Option (Unit × WS)) (v2 : Int) (v3 : Int) (S : WS) : Option (Unit × WS) := if (0 : Int) ≤ v3 ∧ v3 < (256 : Int) then if (0 : Int) ≤ (S.gr_order v3) ∧ (S.gr_order v3) < (256 : Int) then k79 v2 (v3 + 1) (WS.w_gr_groupOf S (aU S.gr_groupOf (S.gr_order v3) (S.gr_size - 1))) else none else none

def q_Gr_form_109 (c : CW) (k79 : Int → Int → WS → Option (Unit × WS)) (v2 : Int) (v3 : Int) (S : WS) : Option (Unit × WS) := if (0 : Int) ≤ v3 ∧ v3 < (256 : Int) then if (0 : Int) ≤ S.gr_size ∧ S.gr_size < (256 : Int) then q_Gr_form_134 c k79 v2 v3 (WS.w_gr_size (WS.w_gr_leaders S (aU S.gr_leaders S.gr_size (S.gr_order v3))) (S.gr_size + 1)) else none else none

def q_Gr_form_79 (c : CW) : Nat → Int → Int → WS → Option (Unit × WS)
  | 0, _, _, _ => none
  | n + 1, v2, v3, S => if w32 v2 ≤ w32 v3 then some ((), S) else if w32 v3 = 0 then q_Gr_form_109 c (q_Gr_form_79 c n) v2 v3 S else if (0 : Int) ≤ (v3 - 1) ∧ (v3 - 1) < (256 : Int) then if (0 : Int) ≤ v3 ∧ v3 < (256 : Int) then mb2 (s_Gr_compare c S (S.gr_order (v3 - 1)) (S.gr_order v3)) (fun r27 S27 => if w32 r27 = 0 then q_Gr_form_134 c (q_Gr_form_79 c n) v2 v3 S27 else q_Gr_form_109 c (q_Gr_form_79 c n) v2 v3 S27) else none else none

def q_Gr_form_55 (c : CW) : Nat → Int → Int → Int → WS → Option (Unit × WS)
  | 0, _, _, _, _ => none
  | n + 1, v1, v2, v3, S => if w32 v2 ≤ w32 v3 then q_Gr_form_79 c fU v2 0 S else mb2 (s_Gr_findLabels c S v3 v1) (fun r21 S21 => mb2 (s_Gr_putInOrder c S21 v3) (fun r22 S22 => (q_Gr_form_55 c n) v1 v2 (v3 + 1) S22))

def q_Gr_form_23 (c : CW) (v1 : Int) (t0 : Int) (S : WS) : Option (Unit × WS) := if w32 t0 = 0 then some ((), WS.w_gr_size (WS.w_gr_nameCount S t0) 0) else mb2 (s_St_size c (WS.w_gr_size (WS.w_gr_nameCount S t0) 0) ) (fun r19 S19 => q_Gr_form_55 c fU v1 (min (w32 r19) 256) 0 S19)

def s_Gr_form (c : CW) (S : WS) (v1 : Int) : Option (Unit × WS) := if w32 v1 = (-1) then q_Gr_form_23 c v1 0 S else mb2 (s_Pg_namesOf c S v1) (fun r34 S34 => q_Gr_form_23 c v1 (min (w32 r34) 6) S34)
set_option maxHeartbeats 4000000 in
set_option maxRecDepth 100000 in
theorem r_Gr_form (l : Launch) (D : jd_T) (g : Nat → Nat) (A : AW) (c : CW) (S : WS) (v1 : Int) (r : Unit) (S9 : WS)  (hs : s_Gr_form c S v1 = some (r, S9)) : jc_C l D y_Gr_form b_Gr_form 4 none { frames := 5, cells := 0, slots := 0, locals := 120 } [.ref (g 12), .int (ii v1)] (wtL D g A c S) (fun _ : Unit => (.returned (none), True, wtL D g A c S9)) := by
  refine jc_of rfl (Nat.le_of_ble_eq_true rfl) ?_
  intro X hl hR hN ok hnm fin
  subst hl
  have B_79 : ∀ (n79 : Nat), ∀ (v2 : Int) (v3 : Int) (S : WS), q_Gr_form_79 c n79 v2 v3 S = some (r, S9) → jw X 0 0 (wtL D g A c S) [(0, .ref (g 12)), (2, .int (ii v2)), (3, .int (ii v3))] 79 [] := by
    intro n79
    induction n79 with
    | zero =>
      intro v2 v3 S hs
      rw [q_Gr_form_79] at hs; cases hs
    | succ n79 ih79 =>
      have B_134 : ∀ (v2 : Int) (v3 : Int) (S : WS), q_Gr_form_134 c (q_Gr_form_79 c n79) v2 v3 S = some (r, S9) → jw X 0 0 (wtL D g A c S) [(0, .ref (g 12)), (2, .int (ii v2)), (3, .int (ii v3))] 134 [] := by
        intro v2 v3 S hs
        rw [q_Gr_form_134] at hs
        refine jr_aload_n ok 0 d_Gr_form_134 rfl rfl ?_
        refine jr_get (v := .ref (g 15)) ok 15 f_Gr_18 rfl rfl d_Gr_form_135 ?_
        refine jr_aload_n ok 0 d_Gr_form_138 rfl rfl ?_
        refine jr_get (v := .ref (g 14)) ok 15 f_Gr_15 rfl rfl d_Gr_form_139 ?_
        refine jr_iload_n ok 2 d_Gr_form_142 rfl rfl ?_
        obtain ⟨hb31, hs⟩ := oq_if hs
        refine jr_iald ok 17 rfl rfl hb31.1 hb31.2 d_Gr_form_143 ?_
        refine jr_aload_n ok 0 d_Gr_form_144 rfl rfl ?_
        refine jr_get (v := .int (ii S.gr_size)) ok 15 f_Gr_40 rfl rfl d_Gr_form_145 ?_
        refine jr_iconst ok d_Gr_form_148 ?_
        refine jr_isub ok d_Gr_form_149 ?_
        obtain ⟨hb32, hs⟩ := oq_if hs
        refine jr_iast (wtL D g A c (WS.w_gr_groupOf S (aU S.gr_groupOf (S.gr_order v3) (S.gr_size - 1)))) ok 18 rfl rfl hb32.1 hb32.2  rfl d_Gr_form_150 ?_
        refine jr_iinc [(3, .int (ii (v3 + 1))), (0, .ref (g 12)), (2, .int (ii v2))] 2 ok d_Gr_form_151 rfl (by rw [hN]; decide) rfl ?_
        refine jr_goto 79 ok d_Gr_form_154 (by decide) ?_
        exact jr_lv [1, 2, 0] rfl (ih79 v2 (v3 + 1) (WS.w_gr_groupOf S (aU S.gr_groupOf (S.gr_order v3) (S.gr_size - 1))) hs)
      have B_109 : ∀ (v2 : Int) (v3 : Int) (S : WS), q_Gr_form_109 c (q_Gr_form_79 c n79) v2 v3 S = some (r, S9) → jw X 0 0 (wtL D g A c S) [(0, .ref (g 12)), (2, .int (ii v2)), (3, .int (ii v3))] 109 [] := by
        intro v2 v3 S hs
        rw [q_Gr_form_109] at hs
        refine jr_aload_n ok 0 d_Gr_form_109 rfl rfl ?_
        refine jr_get (v := .ref (g 16)) ok 15 f_Gr_21 rfl rfl d_Gr_form_110 ?_
        refine jr_aload_n ok 0 d_Gr_form_113 rfl rfl ?_
        refine jr_get (v := .int (ii S.gr_size)) ok 15 f_Gr_40 rfl rfl d_Gr_form_114 ?_
        refine jr_aload_n ok 0 d_Gr_form_117 rfl rfl ?_
        refine jr_get (v := .ref (g 14)) ok 15 f_Gr_15 rfl rfl d_Gr_form_118 ?_
        refine jr_iload_n ok 2 d_Gr_form_121 rfl rfl ?_
        obtain ⟨hb29, hs⟩ := oq_if hs
        refine jr_iald ok 17 rfl rfl hb29.1 hb29.2 d_Gr_form_122 ?_
        obtain ⟨hb30, hs⟩ := oq_if hs
        refine jr_iast (wtL D g A c (WS.w_gr_leaders S (aU S.gr_leaders S.gr_size (S.gr_order v3)))) ok 19 rfl rfl hb30.1 hb30.2  rfl d_Gr_form_123 ?_
        refine jr_aload_n ok 0 d_Gr_form_124 rfl rfl ?_
        refine jr_dup rfl ok d_Gr_form_125 ?_
        refine jr_get (v := .int (ii S.gr_size)) ok 15 f_Gr_40 rfl rfl d_Gr_form_126 ?_
        refine jr_iconst ok d_Gr_form_129 ?_
        refine jr_iadd ok d_Gr_form_130 ?_
        refine jr_put (wtL D g A c (WS.w_gr_size (WS.w_gr_leaders S (aU S.gr_leaders S.gr_size (S.gr_order v3))) (S.gr_size + 1))) ok 15 f_Gr_40 rfl rfl rfl (Nat.le_of_ble_eq_true rfl) rfl d_Gr_form_131 ?_
        exact jr_lv [0, 1, 2] rfl (B_134 v2 v3 (WS.w_gr_size (WS.w_gr_leaders S (aU S.gr_leaders S.gr_size (S.gr_order v3))) (S.gr_size + 1)) hs)
      intro v2 v3 S hs
      rw [q_Gr_form_79] at hs
      refine jr_iload_n ok 2 d_Gr_form_79 rfl rfl ?_
      refine jr_iload_n ok 1 d_Gr_form_80 rfl rfl ?_
      refine jr_wicmp_ge 157 ok rfl rfl d_Gr_form_81 (by decide) (fun c23 => ?_) (fun c23 => ?_)
      · replace hs := oq_pos c23 hs
        exact jm_vret (Lf := wtL D g A c) ok fin hs d_Gr_form_157
      · replace hs := oq_neg c23 hs
        refine jr_iload_n ok 2 d_Gr_form_84 rfl rfl ?_
        refine jr_wif_eq 109 ok rfl d_Gr_form_85 (by decide) (fun c24 => ?_) (fun c24 => ?_)
        · replace hs := oq_pos c24 hs
          exact jr_lv [0, 1, 2] rfl (B_109 v2 v3 S hs)
        · replace hs := oq_neg c24 hs
          refine jr_aload_n ok 0 d_Gr_form_88 rfl rfl ?_
          refine jr_aload_n ok 0 d_Gr_form_89 rfl rfl ?_
          refine jr_get (v := .ref (g 14)) ok 15 f_Gr_15 rfl rfl d_Gr_form_90 ?_
          refine jr_iload_n ok 2 d_Gr_form_93 rfl rfl ?_
          refine jr_iconst ok d_Gr_form_94 ?_
          refine jr_isub ok d_Gr_form_95 ?_
          obtain ⟨hb25, hs⟩ := oq_if hs
          refine jr_iald ok 17 rfl rfl hb25.1 hb25.2 d_Gr_form_96 ?_
          refine jr_aload_n ok 0 d_Gr_form_97 rfl rfl ?_
          refine jr_get (v := .ref (g 14)) ok 15 f_Gr_15 rfl rfl d_Gr_form_98 ?_
          refine jr_iload_n ok 2 d_Gr_form_101 rfl rfl ?_
          obtain ⟨hb26, hs⟩ := oq_if hs
          refine jr_iald ok 17 rfl rfl hb26.1 hb26.2 d_Gr_form_102 ?_
          obtain ⟨r27, S27, hc27, hs⟩ := mb2_some hs
          refine jq_cV1 ok hR m_Gr_68 (r_Gr_compare (jx_l X) D g A c S (S.gr_order (v3 - 1)) (S.gr_order v3) r27 S27  hc27) (sg_atk 15 rfl) rfl rfl rfl (Nat.le_of_ble_eq_true rfl) ⟨Nat.le_of_ble_eq_true rfl, Nat.le_of_ble_eq_true rfl⟩ ⟨Nat.zero_le _, Nat.zero_le _⟩ d_Gr_form_103 ?_
          show jw X 0 0 (wtL D g A c S27) [(0, .ref (g 12)), (2, .int (ii v2)), (3, .int (ii v3))] 106 [.int (ii r27)]
          refine jr_wif_eq 134 ok rfl d_Gr_form_106 (by decide) (fun c28 => ?_) (fun c28 => ?_)
          · replace hs := oq_pos c28 hs
            exact jr_lv [0, 1, 2] rfl (B_134 v2 v3 S27 hs)
          · replace hs := oq_neg c28 hs
            exact jr_lv [0, 1, 2] rfl (B_109 v2 v3 S27 hs)
  have B_55 : ∀ (n55 : Nat), ∀ (v1 : Int) (v2 : Int) (v3 : Int) (S : WS), q_Gr_form_55 c n55 v1 v2 v3 S = some (r, S9) → jw X 0 0 (wtL D g A c S) [(0, .ref (g 12)), (1, .int (ii v1)), (2, .int (ii v2)), (3, .int (ii v3))] 55 [] := by
    intro n55
    induction n55 with
    | zero =>
      intro v1 v2 v3 S hs
      rw [q_Gr_form_55] at hs; cases hs
    | succ n55 ih55 =>
      intro v1 v2 v3 S hs
      rw [q_Gr_form_55] at hs
      refine jr_iload_n ok 3 d_Gr_form_55 rfl rfl ?_
      refine jr_iload_n ok 2 d_Gr_form_56 rfl rfl ?_
      refine jr_wicmp_ge 77 ok rfl rfl d_Gr_form_57 (by decide) (fun c20 => ?_) (fun c20 => ?_)
      · replace hs := oq_pos c20 hs
        refine jr_iconst ok d_Gr_form_77 ?_
        refine jr_istore_n [(3, .int (ii 0)), (0, .ref (g 12)), (1, .int (ii v1)), (2, .int (ii v2))] ok d_Gr_form_78 rfl (by rw [hN]; decide) rfl ?_
        exact jr_lv [1, 3, 0] rfl (B_79 fU v2 0 S hs)
      · replace hs := oq_neg c20 hs
        refine jr_aload_n ok 0 d_Gr_form_60 rfl rfl ?_
        refine jr_iload_n ok 3 d_Gr_form_61 rfl rfl ?_
        refine jr_iload_n ok 1 d_Gr_form_62 rfl rfl ?_
        obtain ⟨r21, S21, hc21, hs⟩ := mb2_some hs
        refine jq_cV0 ok hR m_Gr_60 (r_Gr_findLabels (jx_l X) D g A c S v3 v1 r21 S21  hc21) (sg_atk 15 rfl) rfl rfl rfl (Nat.le_of_ble_eq_true rfl) ⟨Nat.le_of_ble_eq_true rfl, Nat.le_of_ble_eq_true rfl⟩ ⟨Nat.zero_le _, Nat.zero_le _⟩ d_Gr_form_63 ?_
        show jw X 0 0 (wtL D g A c S21) [(0, .ref (g 12)), (1, .int (ii v1)), (2, .int (ii v2)), (3, .int (ii v3))] 66 []
        refine jr_aload_n ok 0 d_Gr_form_66 rfl rfl ?_
        refine jr_iload_n ok 3 d_Gr_form_67 rfl rfl ?_
        obtain ⟨r22, S22, hc22, hs⟩ := mb2_some hs
        refine jq_cV0 ok hR m_Gr_64 (r_Gr_putInOrder (jx_l X) D g A c S21 v3 r22 S22  hc22) (sg_atk 15 rfl) rfl rfl rfl (Nat.le_of_ble_eq_true rfl) ⟨Nat.le_of_ble_eq_true rfl, Nat.le_of_ble_eq_true rfl⟩ ⟨Nat.zero_le _, Nat.zero_le _⟩ d_Gr_form_68 ?_
        show jw X 0 0 (wtL D g A c S22) [(0, .ref (g 12)), (1, .int (ii v1)), (2, .int (ii v2)), (3, .int (ii v3))] 71 []
        refine jr_iinc [(3, .int (ii (v3 + 1))), (0, .ref (g 12)), (1, .int (ii v1)), (2, .int (ii v2))] 3 ok d_Gr_form_71 rfl (by rw [hN]; decide) rfl ?_
        refine jr_goto 55 ok d_Gr_form_74 (by decide) ?_
        exact jr_lv [1, 2, 3, 0] rfl (ih55 v1 v2 (v3 + 1) S22 hs)
  have B_23 : ∀ (v1 : Int) (t0 : Int) (S : WS), q_Gr_form_23 c v1 t0 S = some (r, S9) → jw X 0 0 (wtL D g A c S) [(0, .ref (g 12)), (1, .int (ii v1))] 23 [.int (ii t0), .ref (g 12)] := by
    intro v1 t0 S hs
    rw [q_Gr_form_23] at hs
    refine jr_put (wtL D g A c (WS.w_gr_nameCount S t0)) ok 15 f_Gr_36 rfl rfl rfl (Nat.le_of_ble_eq_true rfl) rfl d_Gr_form_23 ?_
    refine jr_aload_n ok 0 d_Gr_form_26 rfl rfl ?_
    refine jr_iconst ok d_Gr_form_27 ?_
    refine jr_put (wtL D g A c (WS.w_gr_size (WS.w_gr_nameCount S t0) 0)) ok 15 f_Gr_40 rfl rfl rfl (Nat.le_of_ble_eq_true rfl) rfl d_Gr_form_28 ?_
    refine jr_aload_n ok 0 d_Gr_form_31 rfl rfl ?_
    refine jr_get (v := .int (ii t0)) ok 15 f_Gr_36 rfl rfl d_Gr_form_32 ?_
    refine jr_wif_ne 39 ok rfl d_Gr_form_35 (by decide) (fun c18 => ?_) (fun c18 => ?_)
    · replace hs := oq_neg c18 hs
      refine jr_aload_n ok 0 d_Gr_form_39 rfl rfl ?_
      refine jr_get (v := .ref (g 2)) ok 15 f_Gr_28 rfl rfl d_Gr_form_40 ?_
      obtain ⟨r19, S19, hc19, hs⟩ := mb2_some hs
      refine jq_cV1 ok hR m_Gr_55 (r_St_size (jx_l X) D g A c (WS.w_gr_size (WS.w_gr_nameCount S t0) 0)  r19 S19  hc19) (sg_atk 3 rfl) rfl rfl rfl (Nat.le_of_ble_eq_true rfl) ⟨Nat.le_of_ble_eq_true rfl, Nat.le_of_ble_eq_true rfl⟩ ⟨Nat.zero_le _, Nat.zero_le _⟩ d_Gr_form_43 ?_
      show jw X 0 0 (wtL D g A c S19) [(0, .ref (g 12)), (1, .int (ii v1))] 46 [.int (ii r19)]
      refine jr_sipush ok d_Gr_form_46 (by decide +kernel) ?_
      refine jr_wimin ok w_1025 w_402 w_17 w_403 rfl (show w32 256 = 256 by decide) hR ⟨Nat.le_of_ble_eq_true rfl, Nat.le_of_ble_eq_true rfl⟩ ⟨Nat.zero_le _, Nat.zero_le _⟩ (Nat.le_of_ble_eq_true rfl) d_Gr_form_49 ?_
      refine jr_istore_n [(2, .int (ii (min (w32 r19) 256))), (0, .ref (g 12)), (1, .int (ii v1))] ok d_Gr_form_52 rfl (by rw [hN]; decide) rfl ?_
      refine jr_iconst ok d_Gr_form_53 ?_
      refine jr_istore_n [(3, .int (ii 0)), (2, .int (ii (min (w32 r19) 256))), (0, .ref (g 12)), (1, .int (ii v1))] ok d_Gr_form_54 rfl (by rw [hN]; decide) rfl ?_
      exact jr_lv [2, 3, 1, 0] rfl (B_55 fU v1 (min (w32 r19) 256) 0 S19 hs)
    · replace hs := oq_pos c18 hs
      exact jm_vret (Lf := wtL D g A c) ok fin hs d_Gr_form_38
  show jw X 0 0 (wtL D g A c S) [(0, .ref (g 12)), (1, .int (ii v1))] 0 []
  rw [s_Gr_form] at hs
  refine jr_aload_n ok 0 d_Gr_form_0 rfl rfl ?_
  refine jr_iload_n ok 1 d_Gr_form_1 rfl rfl ?_
  refine jr_iconst ok d_Gr_form_2 ?_
  refine jr_wicmp_ne 10 ok rfl (show w32 (-1) = (-1) by decide) d_Gr_form_3 (by decide) (fun c33 => ?_) (fun c33 => ?_)
  · replace hs := oq_neg c33 hs
    refine jr_aload_n ok 0 d_Gr_form_10 rfl rfl ?_
    refine jr_get (v := .ref (g 9)) ok 15 f_Gr_32 rfl rfl d_Gr_form_11 ?_
    refine jr_iload_n ok 1 d_Gr_form_14 rfl rfl ?_
    obtain ⟨r34, S34, hc34, hs⟩ := mb2_some hs
    refine jq_cV1 ok hR m_Gr_43 (r_Pg_namesOf (jx_l X) D g A c S v1 r34 S34  hc34) (sg_atk 11 rfl) rfl rfl rfl (Nat.le_of_ble_eq_true rfl) ⟨Nat.le_of_ble_eq_true rfl, Nat.le_of_ble_eq_true rfl⟩ ⟨Nat.zero_le _, Nat.zero_le _⟩ d_Gr_form_15 ?_
    show jw X 0 0 (wtL D g A c S34) [(0, .ref (g 12)), (1, .int (ii v1))] 18 [.int (ii r34), .ref (g 12)]
    refine jr_bipush ok d_Gr_form_18 (by decide +kernel) ?_
    refine jr_wimin ok w_1025 w_402 w_17 w_403 rfl (show w32 6 = 6 by decide) hR ⟨Nat.le_of_ble_eq_true rfl, Nat.le_of_ble_eq_true rfl⟩ ⟨Nat.zero_le _, Nat.zero_le _⟩ (Nat.le_of_ble_eq_true rfl) d_Gr_form_20 ?_
    exact jr_lv [0, 1] rfl (B_23 v1 (min (w32 r34) 6) S34 hs)
  · replace hs := oq_pos c33 hs
    refine jr_iconst ok d_Gr_form_6 ?_
    refine jr_goto 23 ok d_Gr_form_7 (by decide) ?_
    exact jr_lv [0, 1] rfl (B_23 v1 0 S hs)
