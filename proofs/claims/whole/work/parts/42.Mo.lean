def s_Mo_thrown (S : MS)  : Option (Int × MS) := some (S.m_code, S)
set_option maxHeartbeats 4000000 in
set_option maxRecDepth 100000 in
theorem c_Mo_thrown (l : Launch) (D : jd_T) (g : Nat → Nat) (S : MS)  (r : Int) (S9 : MS) (hs : s_Mo_thrown S  = some (r, S9)) : jc_C l D y_Mo_thrown b_Mo_thrown 1 (some .int) { frames := 0, cells := 0, slots := 0, locals := 0 } [.ref (g 0)] (moL D g S) (fun _ : Unit => (.returned (some (.int (ii r))), True, (moL D g S9))) := by
  refine jc_of rfl (Nat.le_of_ble_eq_true rfl) ?_
  intro X hl hR hN ok hnm fin
  subst hl
  show jw X 0 0 (moL D g S) [(0, .ref (g 0))] 0 []
  rw [s_Mo_thrown] at hs
  refine jr_aload_n ok 0 d_Mo_thrown_0 rfl rfl ?_
  refine jr_get (v := .int (ii S.m_code)) ok 0 f_Mo_101 rfl rfl d_Mo_thrown_1 ?_
  exact jm_iret (Lf := moL D g) ok fin hs d_Mo_thrown_4

def q_Mo_why_34  (S : MS) : Option (Int × MS) := some (2, S)

def s_Mo_why (S : MS) (v1 : Int) (v2 : Int64) : Option (Int × MS) := if v2.toInt < 0 then q_Mo_why_34 S else if 1099511627775 < v2.toInt then q_Mo_why_34 S else if (0 : Int) ≤ v1 ∧ v1 < (256 : Int) then if v2.toInt ≤ (S.m_lasts v1).toInt then q_Mo_why_34 S else if S.m_horizon.toInt ≤ v2.toInt then if w32 S.m_head = 4096 then some (3, S) else some (0, S) else q_Mo_why_34 S else none
set_option maxHeartbeats 4000000 in
set_option maxRecDepth 100000 in
theorem c_Mo_why (l : Launch) (D : jd_T) (g : Nat → Nat) (S : MS) (v1 : Int) (v2 : Int64) (r : Int) (S9 : MS) (hs : s_Mo_why S v1 v2 = some (r, S9)) : jc_C l D y_Mo_why b_Mo_why 4 (some .int) { frames := 0, cells := 0, slots := 0, locals := 0 } [.ref (g 0), .int (ii v1), .long v2] (moL D g S) (fun _ : Unit => (.returned (some (.int (ii r))), True, (moL D g S9))) := by
  refine jc_of rfl (Nat.le_of_ble_eq_true rfl) ?_
  intro X hl hR hN ok hnm fin
  subst hl
  have B_34 : ∀ (S : MS), q_Mo_why_34 S = some (r, S9) → jw X 0 0 (moL D g S) [] 34 [] := by
    intro S hs
    rw [q_Mo_why_34] at hs
    refine jr_iconst ok d_Mo_why_34 ?_
    refine jr_goto 53 ok d_Mo_why_35 (by decide) ?_
    exact jm_iret (Lf := moL D g) ok fin hs d_Mo_why_53
  show jw X 0 0 (moL D g S) [(0, .ref (g 0)), (1, .int (ii v1)), (2, .long v2)] 0 []
  rw [s_Mo_why] at hs
  refine jr_lload_n ok 2 d_Mo_why_0 rfl rfl ?_
  refine jr_lconst (z := 0) ok d_Mo_why_1 (by decide +kernel) ?_
  refine jr_lif_lt 34 ok rfl (ll_toInt ⟨by decide, by decide⟩) d_Mo_why_2 d_Mo_why_3 (by decide) (fun c7 => ?_) (fun c7 => ?_)
  · replace hs := oq_pos c7 hs
    exact jr_lv [] rfl (B_34 S hs)
  · replace hs := oq_neg c7 hs
    refine jr_lload_n ok 2 d_Mo_why_6 rfl rfl ?_
    refine jr_ldc2 (z := 1099511627775) ok w_1591 (by decide +kernel) d_Mo_why_7 ?_
    refine jr_lif_gt 34 ok rfl (ll_toInt ⟨by decide, by decide⟩) d_Mo_why_10 d_Mo_why_11 (by decide) (fun c8 => ?_) (fun c8 => ?_)
    · replace hs := oq_pos c8 hs
      exact jr_lv [] rfl (B_34 S hs)
    · replace hs := oq_neg c8 hs
      refine jr_lload_n ok 2 d_Mo_why_14 rfl rfl ?_
      refine jr_aload_n ok 0 d_Mo_why_15 rfl rfl ?_
      refine jr_get (v := .ref (g 4)) ok 0 f_Mo_22 rfl rfl d_Mo_why_16 ?_
      refine jr_iload_n ok 1 d_Mo_why_19 rfl rfl ?_
      obtain ⟨hb9, hs⟩ := oq_if hs
      refine jr_lald ok 4 rfl rfl hb9.1 hb9.2 d_Mo_why_20 ?_
      refine jr_lif_le 34 ok rfl rfl d_Mo_why_21 d_Mo_why_22 (by decide) (fun c10 => ?_) (fun c10 => ?_)
      · replace hs := oq_pos c10 hs
        exact jr_lv [] rfl (B_34 S hs)
      · replace hs := oq_neg c10 hs
        refine jr_lload_n ok 2 d_Mo_why_25 rfl rfl ?_
        refine jr_aload_n ok 0 d_Mo_why_26 rfl rfl ?_
        refine jr_get (v := .long S.m_horizon) ok 0 f_Mo_157 rfl rfl d_Mo_why_27 ?_
        refine jr_lif_ge 38 ok rfl rfl d_Mo_why_30 d_Mo_why_31 (by decide) (fun c11 => ?_) (fun c11 => ?_)
        · replace hs := oq_pos c11 hs
          refine jr_aload_n ok 0 d_Mo_why_38 rfl rfl ?_
          refine jr_get (v := .int (ii S.m_head)) ok 0 f_Mo_161 rfl rfl d_Mo_why_39 ?_
          refine jr_sipush ok d_Mo_why_42 (by decide +kernel) ?_
          refine jr_wicmp_ne 52 ok rfl (show w32 4096 = 4096 by decide) d_Mo_why_45 (by decide) (fun c12 => ?_) (fun c12 => ?_)
          · replace hs := oq_neg c12 hs
            refine jr_iconst ok d_Mo_why_52 ?_
            exact jm_iret (Lf := moL D g) ok fin hs d_Mo_why_53
          · replace hs := oq_pos c12 hs
            refine jr_iconst ok d_Mo_why_48 ?_
            refine jr_goto 53 ok d_Mo_why_49 (by decide) ?_
            exact jm_iret (Lf := moL D g) ok fin hs d_Mo_why_53
        · replace hs := oq_neg c11 hs
          exact jr_lv [] rfl (B_34 S hs)

def s_Mo_come (S : MS) (v1 : Int) (v2 : Int64) (v4 : Int64) : Option (Unit × MS) := if (0 : Int) ≤ v1 ∧ v1 < (256 : Int) then if (0 : Int) ≤ S.m_points ∧ S.m_points < (8192 : Int) then if (0 : Int) ≤ S.m_points ∧ S.m_points < (8192 : Int) then if (0 : Int) ≤ S.m_points ∧ S.m_points < (8192 : Int) then if (0 : Int) ≤ S.m_points ∧ S.m_points < (8192 : Int) then some ((), MS.w_m_head (MS.w_m_points (MS.w_m_places (MS.w_m_pointValues (MS.w_m_pointTimes (MS.w_m_pointSeries (MS.w_m_lasts S (aU S.m_lasts v1 v2)) (aU S.m_pointSeries S.m_points v1)) (aU S.m_pointTimes S.m_points v2)) (aU S.m_pointValues S.m_points v4)) (aU S.m_places S.m_points 0)) (S.m_points + 1)) (S.m_head + 1)) else none else none else none else none else none
set_option maxHeartbeats 4000000 in
set_option maxRecDepth 100000 in
theorem c_Mo_come (l : Launch) (D : jd_T) (g : Nat → Nat) (S : MS) (v1 : Int) (v2 : Int64) (v4 : Int64) (r : Unit) (S9 : MS) (hs : s_Mo_come S v1 v2 v4 = some (r, S9)) : jc_C l D y_Mo_come b_Mo_come 6 none { frames := 0, cells := 0, slots := 0, locals := 0 } [.ref (g 0), .int (ii v1), .long v2, .long v4] (moL D g S) (fun _ : Unit => (.returned (none), True, (moL D g S9))) := by
  refine jc_of rfl (Nat.le_of_ble_eq_true rfl) ?_
  intro X hl hR hN ok hnm fin
  subst hl
  show jw X 0 0 (moL D g S) [(0, .ref (g 0)), (1, .int (ii v1)), (2, .long v2), (4, .long v4)] 0 []
  rw [s_Mo_come] at hs
  refine jr_aload_n ok 0 d_Mo_come_0 rfl rfl ?_
  refine jr_get (v := .ref (g 4)) ok 0 f_Mo_22 rfl rfl d_Mo_come_1 ?_
  refine jr_iload_n ok 1 d_Mo_come_4 rfl rfl ?_
  refine jr_lload_n ok 2 d_Mo_come_5 rfl rfl ?_
  obtain ⟨hb6, hs⟩ := oq_if hs
  refine jr_last (moL D g (MS.w_m_lasts S (aU S.m_lasts v1 v2))) ok 4 rfl rfl hb6.1 hb6.2  rfl d_Mo_come_6 ?_
  refine jr_aload_n ok 0 d_Mo_come_7 rfl rfl ?_
  refine jr_get (v := .ref (g 5)) ok 0 f_Mo_26 rfl rfl d_Mo_come_8 ?_
  refine jr_aload_n ok 0 d_Mo_come_11 rfl rfl ?_
  refine jr_get (v := .int (ii S.m_points)) ok 0 f_Mo_152 rfl rfl d_Mo_come_12 ?_
  refine jr_iload_n ok 1 d_Mo_come_15 rfl rfl ?_
  obtain ⟨hb7, hs⟩ := oq_if hs
  refine jr_iast (moL D g (MS.w_m_pointSeries (MS.w_m_lasts S (aU S.m_lasts v1 v2)) (aU S.m_pointSeries S.m_points v1))) ok 5 rfl rfl hb7.1 hb7.2  rfl d_Mo_come_16 ?_
  refine jr_aload_n ok 0 d_Mo_come_17 rfl rfl ?_
  refine jr_get (v := .ref (g 6)) ok 0 f_Mo_29 rfl rfl d_Mo_come_18 ?_
  refine jr_aload_n ok 0 d_Mo_come_21 rfl rfl ?_
  refine jr_get (v := .int (ii S.m_points)) ok 0 f_Mo_152 rfl rfl d_Mo_come_22 ?_
  refine jr_lload_n ok 2 d_Mo_come_25 rfl rfl ?_
  obtain ⟨hb8, hs⟩ := oq_if hs
  refine jr_last (moL D g (MS.w_m_pointTimes (MS.w_m_pointSeries (MS.w_m_lasts S (aU S.m_lasts v1 v2)) (aU S.m_pointSeries S.m_points v1)) (aU S.m_pointTimes S.m_points v2))) ok 6 rfl rfl hb8.1 hb8.2  rfl d_Mo_come_26 ?_
  refine jr_aload_n ok 0 d_Mo_come_27 rfl rfl ?_
  refine jr_get (v := .ref (g 7)) ok 0 f_Mo_32 rfl rfl d_Mo_come_28 ?_
  refine jr_aload_n ok 0 d_Mo_come_31 rfl rfl ?_
  refine jr_get (v := .int (ii S.m_points)) ok 0 f_Mo_152 rfl rfl d_Mo_come_32 ?_
  refine jr_lload ok 3 d_Mo_come_35 rfl ?_
  obtain ⟨hb9, hs⟩ := oq_if hs
  refine jr_last (moL D g (MS.w_m_pointValues (MS.w_m_pointTimes (MS.w_m_pointSeries (MS.w_m_lasts S (aU S.m_lasts v1 v2)) (aU S.m_pointSeries S.m_points v1)) (aU S.m_pointTimes S.m_points v2)) (aU S.m_pointValues S.m_points v4))) ok 7 rfl rfl hb9.1 hb9.2  rfl d_Mo_come_37 ?_
  refine jr_aload_n ok 0 d_Mo_come_38 rfl rfl ?_
  refine jr_get (v := .ref (g 8)) ok 0 f_Mo_35 rfl rfl d_Mo_come_39 ?_
  refine jr_aload_n ok 0 d_Mo_come_42 rfl rfl ?_
  refine jr_get (v := .int (ii S.m_points)) ok 0 f_Mo_152 rfl rfl d_Mo_come_43 ?_
  refine jr_iconst ok d_Mo_come_46 ?_
  obtain ⟨hb10, hs⟩ := oq_if hs
  refine jr_bast (moL D g (MS.w_m_places (MS.w_m_pointValues (MS.w_m_pointTimes (MS.w_m_pointSeries (MS.w_m_lasts S (aU S.m_lasts v1 v2)) (aU S.m_pointSeries S.m_points v1)) (aU S.m_pointTimes S.m_points v2)) (aU S.m_pointValues S.m_points v4)) (aU S.m_places S.m_points 0))) ok 8 rfl rfl hb10.1 hb10.2 (by decide +kernel) rfl d_Mo_come_47 ?_
  refine jr_aload_n ok 0 d_Mo_come_48 rfl rfl ?_
  refine jr_dup rfl ok d_Mo_come_49 ?_
  refine jr_get (v := .int (ii S.m_points)) ok 0 f_Mo_152 rfl rfl d_Mo_come_50 ?_
  refine jr_iconst ok d_Mo_come_53 ?_
  refine jr_iadd ok d_Mo_come_54 ?_
  refine jr_put (moL D g (MS.w_m_points (MS.w_m_places (MS.w_m_pointValues (MS.w_m_pointTimes (MS.w_m_pointSeries (MS.w_m_lasts S (aU S.m_lasts v1 v2)) (aU S.m_pointSeries S.m_points v1)) (aU S.m_pointTimes S.m_points v2)) (aU S.m_pointValues S.m_points v4)) (aU S.m_places S.m_points 0)) (S.m_points + 1))) ok 0 f_Mo_152 rfl rfl rfl (Nat.le_of_ble_eq_true rfl) rfl d_Mo_come_55 ?_
  refine jr_aload_n ok 0 d_Mo_come_58 rfl rfl ?_
  refine jr_dup rfl ok d_Mo_come_59 ?_
  refine jr_get (v := .int (ii S.m_head)) ok 0 f_Mo_161 rfl rfl d_Mo_come_60 ?_
  refine jr_iconst ok d_Mo_come_63 ?_
  refine jr_iadd ok d_Mo_come_64 ?_
  refine jr_put (moL D g (MS.w_m_head (MS.w_m_points (MS.w_m_places (MS.w_m_pointValues (MS.w_m_pointTimes (MS.w_m_pointSeries (MS.w_m_lasts S (aU S.m_lasts v1 v2)) (aU S.m_pointSeries S.m_points v1)) (aU S.m_pointTimes S.m_points v2)) (aU S.m_pointValues S.m_points v4)) (aU S.m_places S.m_points 0)) (S.m_points + 1)) (S.m_head + 1))) ok 0 f_Mo_161 rfl rfl rfl (Nat.le_of_ble_eq_true rfl) rfl d_Mo_come_65 ?_
  exact jm_vret (Lf := moL D g) ok fin hs d_Mo_come_68

def q_Mo_pack_75 (k43 : Int → MS → Option (Int × MS)) (v1 : Int) (t0 : Int) (t1 : Int) (S : MS) : Option (Int × MS) := if (0 : Int) ≤ t1 ∧ t1 < (8192 : Int) then if -128 ≤ t0 ∧ t0 ≤ 127 then k43 (v1 + 1) (MS.w_m_places S (aU S.m_places t1 t0)) else none else none

def q_Mo_pack_43 : Nat → Int → MS → Option (Int × MS)
  | 0, _, _ => none
  | n + 1, v1, S => if w32 S.m_points ≤ w32 v1 then some (S.m_head, MS.w_m_parcels (MS.w_m_head S 0) (S.m_parcels + 1)) else if (0 : Int) ≤ v1 ∧ v1 < (8192 : Int) then if w32 (S.m_places v1) = 0 then q_Mo_pack_75 (q_Mo_pack_43 n) v1 1 v1 S else if (0 : Int) ≤ v1 ∧ v1 < (8192 : Int) then q_Mo_pack_75 (q_Mo_pack_43 n) v1 (S.m_places v1) v1 S else none else none

def q_Mo_pack_22 (t0 : Int) (S : MS) : Option (Int × MS) := if 0 < w32 t0 then some (0, MS.w_m_code S t0) else if w32 S.m_head = 0 then some (0, MS.w_m_code S t0) else q_Mo_pack_43 fU 0 (MS.w_m_code S t0)

def q_Mo_pack_21  (S : MS) : Option (Int × MS) := q_Mo_pack_22 0 S

def s_Mo_pack (S : MS)  : Option (Int × MS) := if w32 S.m_head ≤ 0 then q_Mo_pack_21 S else if w32 S.m_parcels = 32 then q_Mo_pack_22 1 S else q_Mo_pack_21 S
set_option maxHeartbeats 4000000 in
set_option maxRecDepth 100000 in
theorem c_Mo_pack (l : Launch) (D : jd_T) (g : Nat → Nat) (S : MS)  (r : Int) (S9 : MS) (hs : s_Mo_pack S  = some (r, S9)) : jc_C l D y_Mo_pack b_Mo_pack 2 (some .int) { frames := 0, cells := 0, slots := 0, locals := 0 } [.ref (g 0)] (moL D g S) (fun _ : Unit => (.returned (some (.int (ii r))), True, (moL D g S9))) := by
  refine jc_of rfl (Nat.le_of_ble_eq_true rfl) ?_
  intro X hl hR hN ok hnm fin
  subst hl
  have B_43 : ∀ (n43 : Nat), ∀ (v1 : Int) (S : MS), q_Mo_pack_43 n43 v1 S = some (r, S9) → jw X 0 0 (moL D g S) [(0, .ref (g 0)), (1, .int (ii v1))] 43 [] := by
    intro n43
    induction n43 with
    | zero =>
      intro v1 S hs
      rw [q_Mo_pack_43] at hs; cases hs
    | succ n43 ih43 =>
      have B_75 : ∀ (v1 : Int) (t0 : Int) (t1 : Int) (S : MS), q_Mo_pack_75 (q_Mo_pack_43 n43) v1 t0 t1 S = some (r, S9) → jw X 0 0 (moL D g S) [(0, .ref (g 0)), (1, .int (ii v1))] 75 [.int (ii t0), .int (ii t1), .ref (g 8)] := by
        intro v1 t0 t1 S hs
        rw [q_Mo_pack_75] at hs
        obtain ⟨hb17, hs⟩ := oq_if hs
        obtain ⟨hb18, hs⟩ := oq_if hs
        refine jr_bast (moL D g (MS.w_m_places S (aU S.m_places t1 t0))) ok 8 rfl rfl hb17.1 hb17.2 (nar_b hb18) rfl d_Mo_pack_75 ?_
        refine jr_iinc [(1, .int (ii (v1 + 1))), (0, .ref (g 0))] 1 ok d_Mo_pack_76 rfl (by rw [hN]; decide) rfl ?_
        refine jr_goto 43 ok d_Mo_pack_79 (by decide) ?_
        exact jr_lv [1, 0] rfl (ih43 (v1 + 1) (MS.w_m_places S (aU S.m_places t1 t0)) hs)
      intro v1 S hs
      rw [q_Mo_pack_43] at hs
      refine jr_iload_n ok 1 d_Mo_pack_43 rfl rfl ?_
      refine jr_aload_n ok 0 d_Mo_pack_44 rfl rfl ?_
      refine jr_get (v := .int (ii S.m_points)) ok 0 f_Mo_152 rfl rfl d_Mo_pack_45 ?_
      refine jr_wicmp_ge 82 ok rfl rfl d_Mo_pack_48 (by decide) (fun c13 => ?_) (fun c13 => ?_)
      · replace hs := oq_pos c13 hs
        refine jr_aload_n ok 0 d_Mo_pack_82 rfl rfl ?_
        refine jr_get (v := .int (ii S.m_head)) ok 0 f_Mo_161 rfl rfl d_Mo_pack_83 ?_
        refine jr_istore_n [(1, .int (ii S.m_head)), (0, .ref (g 0))] ok d_Mo_pack_86 rfl (by rw [hN]; decide) rfl ?_
        refine jr_aload_n ok 1 d_Mo_pack_87 rfl rfl ?_
        refine jr_iconst ok d_Mo_pack_88 ?_
        refine jr_put (moL D g (MS.w_m_head S 0)) ok 0 f_Mo_161 rfl rfl rfl (Nat.le_of_ble_eq_true rfl) rfl d_Mo_pack_89 ?_
        refine jr_aload_n ok 1 d_Mo_pack_92 rfl rfl ?_
        refine jr_dup rfl ok d_Mo_pack_93 ?_
        refine jr_get (v := .int (ii S.m_parcels)) ok 0 f_Mo_189 rfl rfl d_Mo_pack_94 ?_
        refine jr_iconst ok d_Mo_pack_97 ?_
        refine jr_iadd ok d_Mo_pack_98 ?_
        refine jr_put (moL D g (MS.w_m_parcels (MS.w_m_head S 0) (S.m_parcels + 1))) ok 0 f_Mo_189 rfl rfl rfl (Nat.le_of_ble_eq_true rfl) rfl d_Mo_pack_99 ?_
        refine jr_iload_n ok 0 d_Mo_pack_102 rfl rfl ?_
        exact jm_iret (Lf := moL D g) ok fin hs d_Mo_pack_103
      · replace hs := oq_neg c13 hs
        refine jr_aload_n ok 0 d_Mo_pack_51 rfl rfl ?_
        refine jr_get (v := .ref (g 8)) ok 0 f_Mo_35 rfl rfl d_Mo_pack_52 ?_
        refine jr_iload_n ok 1 d_Mo_pack_55 rfl rfl ?_
        refine jr_aload_n ok 0 d_Mo_pack_56 rfl rfl ?_
        refine jr_get (v := .ref (g 8)) ok 0 f_Mo_35 rfl rfl d_Mo_pack_57 ?_
        refine jr_iload_n ok 1 d_Mo_pack_60 rfl rfl ?_
        obtain ⟨hb14, hs⟩ := oq_if hs
        refine jr_bald ok 8 rfl rfl hb14.1 hb14.2 d_Mo_pack_61 ?_
        refine jr_wif_ne 69 ok rfl d_Mo_pack_62 (by decide) (fun c15 => ?_) (fun c15 => ?_)
        · replace hs := oq_neg c15 hs
          refine jr_aload_n ok 0 d_Mo_pack_69 rfl rfl ?_
          refine jr_get (v := .ref (g 8)) ok 0 f_Mo_35 rfl rfl d_Mo_pack_70 ?_
          refine jr_iload_n ok 1 d_Mo_pack_73 rfl rfl ?_
          obtain ⟨hb16, hs⟩ := oq_if hs
          refine jr_bald ok 8 rfl rfl hb16.1 hb16.2 d_Mo_pack_74 ?_
          exact jr_lv [0, 1] rfl (B_75 v1 (S.m_places v1) v1 S hs)
        · replace hs := oq_pos c15 hs
          refine jr_iconst ok d_Mo_pack_65 ?_
          refine jr_goto 75 ok d_Mo_pack_66 (by decide) ?_
          exact jr_lv [0, 1] rfl (B_75 v1 1 v1 S hs)
  have B_22 : ∀ (t0 : Int) (S : MS), q_Mo_pack_22 t0 S = some (r, S9) → jw X 0 0 (moL D g S) [(0, .ref (g 0))] 22 [.int (ii t0), .ref (g 0)] := by
    intro t0 S hs
    rw [q_Mo_pack_22] at hs
    refine jr_put (moL D g (MS.w_m_code S t0)) ok 0 f_Mo_101 rfl rfl rfl (Nat.le_of_ble_eq_true rfl) rfl d_Mo_pack_22 ?_
    refine jr_aload_n ok 0 d_Mo_pack_25 rfl rfl ?_
    refine jr_get (v := .int (ii t0)) ok 0 f_Mo_101 rfl rfl d_Mo_pack_26 ?_
    refine jr_wif_gt 39 ok rfl d_Mo_pack_29 (by decide) (fun c11 => ?_) (fun c11 => ?_)
    · replace hs := oq_pos c11 hs
      refine jr_iconst ok d_Mo_pack_39 ?_
      exact jm_iret (Lf := moL D g) ok fin hs d_Mo_pack_40
    · replace hs := oq_neg c11 hs
      refine jr_aload_n ok 0 d_Mo_pack_32 rfl rfl ?_
      refine jr_get (v := .int (ii S.m_head)) ok 0 f_Mo_161 rfl rfl d_Mo_pack_33 ?_
      refine jr_wif_ne 41 ok rfl d_Mo_pack_36 (by decide) (fun c12 => ?_) (fun c12 => ?_)
      · replace hs := oq_neg c12 hs
        refine jr_iconst ok d_Mo_pack_41 ?_
        refine jr_istore_n [(1, .int (ii 0)), (0, .ref (g 0))] ok d_Mo_pack_42 rfl (by rw [hN]; decide) rfl ?_
        exact jr_lv [1, 0] rfl (B_43 fU 0 (MS.w_m_code S t0) hs)
      · replace hs := oq_pos c12 hs
        refine jr_iconst ok d_Mo_pack_39 ?_
        exact jm_iret (Lf := moL D g) ok fin hs d_Mo_pack_40
  have B_21 : ∀ (S : MS), q_Mo_pack_21 S = some (r, S9) → jw X 0 0 (moL D g S) [(0, .ref (g 0))] 21 [.ref (g 0)] := by
    intro S hs
    rw [q_Mo_pack_21] at hs
    refine jr_iconst ok d_Mo_pack_21 ?_
    exact jr_lv [0] rfl (B_22 0 S hs)
  show jw X 0 0 (moL D g S) [(0, .ref (g 0))] 0 []
  rw [s_Mo_pack] at hs
  refine jr_aload_n ok 0 d_Mo_pack_0 rfl rfl ?_
  refine jr_aload_n ok 0 d_Mo_pack_1 rfl rfl ?_
  refine jr_get (v := .int (ii S.m_head)) ok 0 f_Mo_161 rfl rfl d_Mo_pack_2 ?_
  refine jr_wif_le 21 ok rfl d_Mo_pack_5 (by decide) (fun c19 => ?_) (fun c19 => ?_)
  · replace hs := oq_pos c19 hs
    exact jr_lv [0] rfl (B_21 S hs)
  · replace hs := oq_neg c19 hs
    refine jr_aload_n ok 0 d_Mo_pack_8 rfl rfl ?_
    refine jr_get (v := .int (ii S.m_parcels)) ok 0 f_Mo_189 rfl rfl d_Mo_pack_9 ?_
    refine jr_bipush ok d_Mo_pack_12 (by decide +kernel) ?_
    refine jr_wicmp_ne 21 ok rfl (show w32 32 = 32 by decide) d_Mo_pack_14 (by decide) (fun c20 => ?_) (fun c20 => ?_)
    · replace hs := oq_neg c20 hs
      exact jr_lv [0] rfl (B_21 S hs)
    · replace hs := oq_pos c20 hs
      refine jr_iconst ok d_Mo_pack_17 ?_
      refine jr_goto 22 ok d_Mo_pack_18 (by decide) ?_
      exact jr_lv [0] rfl (B_22 1 S hs)

def s_Mo_at (S : MS) (v1 : Int) : Option (Int × MS) := if w32 v1 < 0 then some (0, S) else if w32 S.m_length ≤ w32 v1 then some (0, S) else if (0 : Int) ≤ v1 ∧ v1 < (65536 : Int) then some (gAnd (S.m_tape v1) 255, S) else none
set_option maxHeartbeats 4000000 in
set_option maxRecDepth 100000 in
theorem c_Mo_at (l : Launch) (D : jd_T) (g : Nat → Nat) (S : MS) (v1 : Int) (r : Int) (S9 : MS) (hs : s_Mo_at S v1 = some (r, S9)) : jc_C l D y_Mo_at b_Mo_at 2 (some .int) { frames := 0, cells := 0, slots := 0, locals := 0 } [.ref (g 0), .int (ii v1)] (moL D g S) (fun _ : Unit => (.returned (some (.int (ii r))), True, (moL D g S9))) := by
  refine jc_of rfl (Nat.le_of_ble_eq_true rfl) ?_
  intro X hl hR hN ok hnm fin
  subst hl
  show jw X 0 0 (moL D g S) [(0, .ref (g 0)), (1, .int (ii v1))] 0 []
  rw [s_Mo_at] at hs
  refine jr_iload_n ok 1 d_Mo_at_0 rfl rfl ?_
  refine jr_wif_lt 25 ok rfl d_Mo_at_1 (by decide) (fun c4 => ?_) (fun c4 => ?_)
  · replace hs := oq_pos c4 hs
    refine jr_iconst ok d_Mo_at_25 ?_
    exact jm_iret (Lf := moL D g) ok fin hs d_Mo_at_26
  · replace hs := oq_neg c4 hs
    refine jr_iload_n ok 1 d_Mo_at_4 rfl rfl ?_
    refine jr_aload_n ok 0 d_Mo_at_5 rfl rfl ?_
    refine jr_get (v := .int (ii S.m_length)) ok 0 f_Mo_105 rfl rfl d_Mo_at_6 ?_
    refine jr_wicmp_ge 25 ok rfl rfl d_Mo_at_9 (by decide) (fun c5 => ?_) (fun c5 => ?_)
    · replace hs := oq_pos c5 hs
      refine jr_iconst ok d_Mo_at_25 ?_
      exact jm_iret (Lf := moL D g) ok fin hs d_Mo_at_26
    · replace hs := oq_neg c5 hs
      refine jr_aload_n ok 0 d_Mo_at_12 rfl rfl ?_
      refine jr_get (v := .ref (g 1)) ok 0 f_Mo_8 rfl rfl d_Mo_at_13 ?_
      refine jr_iload_n ok 1 d_Mo_at_16 rfl rfl ?_
      obtain ⟨hb6, hs⟩ := oq_if hs
      refine jr_bald ok 1 rfl rfl hb6.1 hb6.2 d_Mo_at_17 ?_
      refine jr_sipush ok d_Mo_at_18 (by decide +kernel) ?_
      refine jr_iand (z := gAnd (S.m_tape v1) 255) ok d_Mo_at_21 (ii_of _).symm ?_
      refine jr_goto 26 ok d_Mo_at_22 (by decide) ?_
      exact jm_iret (Lf := moL D g) ok fin hs d_Mo_at_26

def q_Mo_valueOf_149 (k26 : Int → Int → Int → Int → MS → Option (Int × MS)) (v2 : Int) (v3 : Int) (v4 : Int) (v6 : Int) (v7 : Int) (v8 : Int) (S : MS) : Option (Int × MS) := if w32 v8 = 0 then k26 v2 v3 v4 (v7 + 1) S else some (v6 + 1, MS.w_m_valueLength S ((v7 - v6) - 1))

def q_Mo_valueOf_141 (k26 : Int → Int → Int → Int → MS → Option (Int × MS)) (k103 : Int → Int → Int → Int → Int → Int → Int → Int → MS → Option (Int × MS)) (v2 : Int) (v3 : Int) (v4 : Int) (v5 : Int) (v6 : Int) (v7 : Int) (v9 : Int) (t0 : Int) (S : MS) : Option (Int × MS) := k103 v2 v3 v4 v5 v6 v7 t0 (v9 + 1) S

def q_Mo_valueOf_103 (k26 : Int → Int → Int → Int → MS → Option (Int × MS)) : Nat → Int → Int → Int → Int → Int → Int → Int → Int → MS → Option (Int × MS)
  | 0, _, _, _, _, _, _, _, _, _ => none
  | n + 1, v2, v3, v4, v5, v6, v7, v8, v9, S => if w32 v3 ≤ w32 v9 then q_Mo_valueOf_149 k26 v2 v3 v4 v6 v7 v8 S else if w32 v8 = 0 then q_Mo_valueOf_149 k26 v2 v3 v4 v6 v7 v8 S else if (0 : Int) ≤ (v5 + v9) ∧ (v5 + v9) < (78128 : Int) then if (0 : Int) ≤ (v2 + v9) ∧ (v2 + v9) < (65536 : Int) then if w32 (S.m_texts (v5 + v9)) = w32 (S.m_tape (v2 + v9)) then q_Mo_valueOf_141 k26 (q_Mo_valueOf_103 k26 n) v2 v3 v4 v5 v6 v7 v9 1 S else q_Mo_valueOf_141 k26 (q_Mo_valueOf_103 k26 n) v2 v3 v4 v5 v6 v7 v9 0 S else none else none

def q_Mo_valueOf_98 (k26 : Int → Int → Int → Int → MS → Option (Int × MS)) (v2 : Int) (v3 : Int) (v4 : Int) (v5 : Int) (v6 : Int) (v7 : Int) (t0 : Int) (S : MS) : Option (Int × MS) := q_Mo_valueOf_103 k26 fU v2 v3 v4 v5 v6 v7 t0 0 S

def q_Mo_valueOf_84 (k26 : Int → Int → Int → Int → MS → Option (Int × MS)) (v2 : Int) (v3 : Int) (v4 : Int) (v5 : Int) (v6 : Int) (v7 : Int) (S : MS) : Option (Int × MS) := if w32 (v6 - v5) = w32 v3 then q_Mo_valueOf_98 k26 v2 v3 v4 v5 v6 v7 1 S else q_Mo_valueOf_98 k26 v2 v3 v4 v5 v6 v7 0 S

def q_Mo_valueOf_59 (k26 : Int → Int → Int → Int → MS → Option (Int × MS)) : Nat → Int → Int → Int → Int → Int → Int → MS → Option (Int × MS)
  | 0, _, _, _, _, _, _, _ => none
  | n + 1, v2, v3, v4, v5, v6, v7, S => if w32 v4 ≤ w32 v7 then q_Mo_valueOf_84 k26 v2 v3 v4 v5 v6 v7 S else if (0 : Int) ≤ v7 ∧ v7 < (78128 : Int) then if w32 (S.m_texts v7) = 44 then q_Mo_valueOf_84 k26 v2 v3 v4 v5 v6 v7 S else (q_Mo_valueOf_59 k26 n) v2 v3 v4 v5 v6 (v7 + 1) S else none

def q_Mo_valueOf_37 (k26 : Int → Int → Int → Int → MS → Option (Int × MS)) : Nat → Int → Int → Int → Int → Int → MS → Option (Int × MS)
  | 0, _, _, _, _, _, _ => none
  | n + 1, v2, v3, v4, v5, v6, S => if (0 : Int) ≤ v6 ∧ v6 < (78128 : Int) then if w32 (S.m_texts v6) = 61 then q_Mo_valueOf_59 k26 fU v2 v3 v4 v5 v6 v6 S else (q_Mo_valueOf_37 k26 n) v2 v3 v4 v5 (v6 + 1) S else none

def q_Mo_valueOf_26 : Nat → Int → Int → Int → Int → MS → Option (Int × MS)
  | 0, _, _, _, _, _ => none
  | n + 1, v2, v3, v4, v5, S => if w32 v4 ≤ w32 v5 then some (-1, S) else q_Mo_valueOf_37 (q_Mo_valueOf_26 n) fU v2 v3 v4 v5 v5 S

def s_Mo_valueOf (S : MS) (v1 : Int) (v2 : Int) (v3 : Int) : Option (Int × MS) := if (0 : Int) ≤ v1 ∧ v1 < (256 : Int) then q_Mo_valueOf_26 fU v2 v3 ((304 * v1) + (S.m_textLengths v1)) (304 * v1) (MS.w_m_valueLength S 0) else none
set_option maxHeartbeats 4000000 in
set_option maxRecDepth 100000 in
theorem c_Mo_valueOf (l : Launch) (D : jd_T) (g : Nat → Nat) (S : MS) (v1 : Int) (v2 : Int) (v3 : Int) (r : Int) (S9 : MS) (hs : s_Mo_valueOf S v1 v2 v3 = some (r, S9)) : jc_C l D y_Mo_valueOf b_Mo_valueOf 10 (some .int) { frames := 0, cells := 0, slots := 0, locals := 0 } [.ref (g 0), .int (ii v1), .int (ii v2), .int (ii v3)] (moL D g S) (fun _ : Unit => (.returned (some (.int (ii r))), True, (moL D g S9))) := by
  refine jc_of rfl (Nat.le_of_ble_eq_true rfl) ?_
  intro X hl hR hN ok hnm fin
  subst hl
  have B_26 : ∀ (n26 : Nat), ∀ (v2 : Int) (v3 : Int) (v4 : Int) (v5 : Int) (S : MS), q_Mo_valueOf_26 n26 v2 v3 v4 v5 S = some (r, S9) → jw X 0 0 (moL D g S) [(0, .ref (g 0)), (2, .int (ii v2)), (3, .int (ii v3)), (4, .int (ii v4)), (5, .int (ii v5))] 26 [] := by
    intro n26
    induction n26 with
    | zero =>
      intro v2 v3 v4 v5 S hs
      rw [q_Mo_valueOf_26] at hs; cases hs
    | succ n26 ih26 =>
      have B_149 : ∀ (v2 : Int) (v3 : Int) (v4 : Int) (v6 : Int) (v7 : Int) (v8 : Int) (S : MS), q_Mo_valueOf_149 (q_Mo_valueOf_26 n26) v2 v3 v4 v6 v7 v8 S = some (r, S9) → jw X 0 0 (moL D g S) [(0, .ref (g 0)), (2, .int (ii v2)), (3, .int (ii v3)), (4, .int (ii v4)), (6, .int (ii v6)), (7, .int (ii v7)), (8, .int (ii v8))] 149 [] := by
        intro v2 v3 v4 v6 v7 v8 S hs
        rw [q_Mo_valueOf_149] at hs
        refine jr_iload ok 6 d_Mo_valueOf_149 rfl ?_
        refine jr_wif_eq 170 ok rfl d_Mo_valueOf_151 (by decide) (fun c27 => ?_) (fun c27 => ?_)
        · replace hs := oq_pos c27 hs
          refine jr_iload ok 5 d_Mo_valueOf_170 rfl ?_
          refine jr_iconst ok d_Mo_valueOf_172 ?_
          refine jr_iadd ok d_Mo_valueOf_173 ?_
          refine jr_istore [(5, .int (ii (v7 + 1))), (0, .ref (g 0)), (2, .int (ii v2)), (3, .int (ii v3)), (4, .int (ii v4)), (6, .int (ii v6)), (7, .int (ii v7)), (8, .int (ii v8))] ok d_Mo_valueOf_174 (by rw [hN]; decide) rfl ?_
          refine jr_goto 26 ok d_Mo_valueOf_176 (by decide) ?_
          exact jr_lv [1, 2, 3, 4, 0] rfl (ih26 v2 v3 v4 (v7 + 1) S hs)
        · replace hs := oq_neg c27 hs
          refine jr_aload_n ok 0 d_Mo_valueOf_154 rfl rfl ?_
          refine jr_iload ok 5 d_Mo_valueOf_155 rfl ?_
          refine jr_iload ok 4 d_Mo_valueOf_157 rfl ?_
          refine jr_isub ok d_Mo_valueOf_159 ?_
          refine jr_iconst ok d_Mo_valueOf_160 ?_
          refine jr_isub ok d_Mo_valueOf_161 ?_
          refine jr_put (moL D g (MS.w_m_valueLength S ((v7 - v6) - 1))) ok 0 f_Mo_237 rfl rfl rfl (Nat.le_of_ble_eq_true rfl) rfl d_Mo_valueOf_162 ?_
          refine jr_iload ok 4 d_Mo_valueOf_165 rfl ?_
          refine jr_iconst ok d_Mo_valueOf_167 ?_
          refine jr_iadd ok d_Mo_valueOf_168 ?_
          exact jm_iret (Lf := moL D g) ok fin hs d_Mo_valueOf_169
      have B_103 : ∀ (n103 : Nat), ∀ (v2 : Int) (v3 : Int) (v4 : Int) (v5 : Int) (v6 : Int) (v7 : Int) (v8 : Int) (v9 : Int) (S : MS), q_Mo_valueOf_103 (q_Mo_valueOf_26 n26) n103 v2 v3 v4 v5 v6 v7 v8 v9 S = some (r, S9) → jw X 0 0 (moL D g S) [(0, .ref (g 0)), (2, .int (ii v2)), (3, .int (ii v3)), (4, .int (ii v4)), (5, .int (ii v5)), (6, .int (ii v6)), (7, .int (ii v7)), (8, .int (ii v8)), (9, .int (ii v9))] 103 [] := by
        intro n103
        induction n103 with
        | zero =>
          intro v2 v3 v4 v5 v6 v7 v8 v9 S hs
          rw [q_Mo_valueOf_103] at hs; cases hs
        | succ n103 ih103 =>
          have B_141 : ∀ (v2 : Int) (v3 : Int) (v4 : Int) (v5 : Int) (v6 : Int) (v7 : Int) (v9 : Int) (t0 : Int) (S : MS), q_Mo_valueOf_141 (q_Mo_valueOf_26 n26) (q_Mo_valueOf_103 (q_Mo_valueOf_26 n26) n103) v2 v3 v4 v5 v6 v7 v9 t0 S = some (r, S9) → jw X 0 0 (moL D g S) [(0, .ref (g 0)), (2, .int (ii v2)), (3, .int (ii v3)), (4, .int (ii v4)), (5, .int (ii v5)), (6, .int (ii v6)), (7, .int (ii v7)), (9, .int (ii v9))] 141 [.int (ii t0)] := by
            intro v2 v3 v4 v5 v6 v7 v9 t0 S hs
            rw [q_Mo_valueOf_141] at hs
            refine jr_istore [(8, .int (ii t0)), (0, .ref (g 0)), (2, .int (ii v2)), (3, .int (ii v3)), (4, .int (ii v4)), (5, .int (ii v5)), (6, .int (ii v6)), (7, .int (ii v7)), (9, .int (ii v9))] ok d_Mo_valueOf_141 (by rw [hN]; decide) rfl ?_
            refine jr_iinc [(9, .int (ii (v9 + 1))), (8, .int (ii t0)), (0, .ref (g 0)), (2, .int (ii v2)), (3, .int (ii v3)), (4, .int (ii v4)), (5, .int (ii v5)), (6, .int (ii v6)), (7, .int (ii v7))] 8 ok d_Mo_valueOf_143 rfl (by rw [hN]; decide) rfl ?_
            refine jr_goto 103 ok d_Mo_valueOf_146 (by decide) ?_
            exact jr_lv [2, 3, 4, 5, 6, 7, 8, 1, 0] rfl (ih103 v2 v3 v4 v5 v6 v7 t0 (v9 + 1) S hs)
          intro v2 v3 v4 v5 v6 v7 v8 v9 S hs
          rw [q_Mo_valueOf_103] at hs
          refine jr_iload ok 8 d_Mo_valueOf_103 rfl ?_
          refine jr_iload_n ok 2 d_Mo_valueOf_105 rfl rfl ?_
          refine jr_wicmp_ge 149 ok rfl rfl d_Mo_valueOf_106 (by decide) (fun c22 => ?_) (fun c22 => ?_)
          · replace hs := oq_pos c22 hs
            exact jr_lv [0, 1, 2, 3, 5, 6, 7] rfl (B_149 v2 v3 v4 v6 v7 v8 S hs)
          · replace hs := oq_neg c22 hs
            refine jr_iload ok 7 d_Mo_valueOf_109 rfl ?_
            refine jr_wif_eq 149 ok rfl d_Mo_valueOf_111 (by decide) (fun c23 => ?_) (fun c23 => ?_)
            · replace hs := oq_pos c23 hs
              exact jr_lv [0, 1, 2, 3, 5, 6, 7] rfl (B_149 v2 v3 v4 v6 v7 v8 S hs)
            · replace hs := oq_neg c23 hs
              refine jr_aload_n ok 0 d_Mo_valueOf_114 rfl rfl ?_
              refine jr_get (v := .ref (g 2)) ok 0 f_Mo_15 rfl rfl d_Mo_valueOf_115 ?_
              refine jr_iload ok 4 d_Mo_valueOf_118 rfl ?_
              refine jr_iload ok 8 d_Mo_valueOf_120 rfl ?_
              refine jr_iadd ok d_Mo_valueOf_122 ?_
              obtain ⟨hb24, hs⟩ := oq_if hs
              refine jr_bald ok 2 rfl rfl hb24.1 hb24.2 d_Mo_valueOf_123 ?_
              refine jr_aload_n ok 0 d_Mo_valueOf_124 rfl rfl ?_
              refine jr_get (v := .ref (g 1)) ok 0 f_Mo_8 rfl rfl d_Mo_valueOf_125 ?_
              refine jr_iload_n ok 1 d_Mo_valueOf_128 rfl rfl ?_
              refine jr_iload ok 8 d_Mo_valueOf_129 rfl ?_
              refine jr_iadd ok d_Mo_valueOf_131 ?_
              obtain ⟨hb25, hs⟩ := oq_if hs
              refine jr_bald ok 1 rfl rfl hb25.1 hb25.2 d_Mo_valueOf_132 ?_
              refine jr_wicmp_ne 140 ok rfl rfl d_Mo_valueOf_133 (by decide) (fun c26 => ?_) (fun c26 => ?_)
              · replace hs := oq_neg c26 hs
                refine jr_iconst ok d_Mo_valueOf_140 ?_
                exact jr_lv [0, 1, 2, 3, 4, 5, 6, 8] rfl (B_141 v2 v3 v4 v5 v6 v7 v9 0 S hs)
              · replace hs := oq_pos c26 hs
                refine jr_iconst ok d_Mo_valueOf_136 ?_
                refine jr_goto 141 ok d_Mo_valueOf_137 (by decide) ?_
                exact jr_lv [0, 1, 2, 3, 4, 5, 6, 8] rfl (B_141 v2 v3 v4 v5 v6 v7 v9 1 S hs)
      have B_98 : ∀ (v2 : Int) (v3 : Int) (v4 : Int) (v5 : Int) (v6 : Int) (v7 : Int) (t0 : Int) (S : MS), q_Mo_valueOf_98 (q_Mo_valueOf_26 n26) v2 v3 v4 v5 v6 v7 t0 S = some (r, S9) → jw X 0 0 (moL D g S) [(0, .ref (g 0)), (2, .int (ii v2)), (3, .int (ii v3)), (4, .int (ii v4)), (5, .int (ii v5)), (6, .int (ii v6)), (7, .int (ii v7))] 98 [.int (ii t0)] := by
        intro v2 v3 v4 v5 v6 v7 t0 S hs
        rw [q_Mo_valueOf_98] at hs
        refine jr_istore [(8, .int (ii t0)), (0, .ref (g 0)), (2, .int (ii v2)), (3, .int (ii v3)), (4, .int (ii v4)), (5, .int (ii v5)), (6, .int (ii v6)), (7, .int (ii v7))] ok d_Mo_valueOf_98 (by rw [hN]; decide) rfl ?_
        refine jr_iconst ok d_Mo_valueOf_100 ?_
        refine jr_istore [(9, .int (ii 0)), (8, .int (ii t0)), (0, .ref (g 0)), (2, .int (ii v2)), (3, .int (ii v3)), (4, .int (ii v4)), (5, .int (ii v5)), (6, .int (ii v6)), (7, .int (ii v7))] ok d_Mo_valueOf_101 (by rw [hN]; decide) rfl ?_
        exact jr_lv [2, 3, 4, 5, 6, 7, 8, 1, 0] rfl (B_103 fU v2 v3 v4 v5 v6 v7 t0 0 S hs)
      have B_84 : ∀ (v2 : Int) (v3 : Int) (v4 : Int) (v5 : Int) (v6 : Int) (v7 : Int) (S : MS), q_Mo_valueOf_84 (q_Mo_valueOf_26 n26) v2 v3 v4 v5 v6 v7 S = some (r, S9) → jw X 0 0 (moL D g S) [(0, .ref (g 0)), (2, .int (ii v2)), (3, .int (ii v3)), (4, .int (ii v4)), (5, .int (ii v5)), (6, .int (ii v6)), (7, .int (ii v7))] 84 [] := by
        intro v2 v3 v4 v5 v6 v7 S hs
        rw [q_Mo_valueOf_84] at hs
        refine jr_iload ok 5 d_Mo_valueOf_84 rfl ?_
        refine jr_iload ok 4 d_Mo_valueOf_86 rfl ?_
        refine jr_isub ok d_Mo_valueOf_88 ?_
        refine jr_iload_n ok 2 d_Mo_valueOf_89 rfl rfl ?_
        refine jr_wicmp_ne 97 ok rfl rfl d_Mo_valueOf_90 (by decide) (fun c21 => ?_) (fun c21 => ?_)
        · replace hs := oq_neg c21 hs
          refine jr_iconst ok d_Mo_valueOf_97 ?_
          exact jr_lv [0, 1, 2, 3, 4, 5, 6] rfl (B_98 v2 v3 v4 v5 v6 v7 0 S hs)
        · replace hs := oq_pos c21 hs
          refine jr_iconst ok d_Mo_valueOf_93 ?_
          refine jr_goto 98 ok d_Mo_valueOf_94 (by decide) ?_
          exact jr_lv [0, 1, 2, 3, 4, 5, 6] rfl (B_98 v2 v3 v4 v5 v6 v7 1 S hs)
      have B_59 : ∀ (n59 : Nat), ∀ (v2 : Int) (v3 : Int) (v4 : Int) (v5 : Int) (v6 : Int) (v7 : Int) (S : MS), q_Mo_valueOf_59 (q_Mo_valueOf_26 n26) n59 v2 v3 v4 v5 v6 v7 S = some (r, S9) → jw X 0 0 (moL D g S) [(0, .ref (g 0)), (2, .int (ii v2)), (3, .int (ii v3)), (4, .int (ii v4)), (5, .int (ii v5)), (6, .int (ii v6)), (7, .int (ii v7))] 59 [] := by
        intro n59
        induction n59 with
        | zero =>
          intro v2 v3 v4 v5 v6 v7 S hs
          rw [q_Mo_valueOf_59] at hs; cases hs
        | succ n59 ih59 =>
          intro v2 v3 v4 v5 v6 v7 S hs
          rw [q_Mo_valueOf_59] at hs
          refine jr_iload ok 6 d_Mo_valueOf_59 rfl ?_
          refine jr_iload ok 3 d_Mo_valueOf_61 rfl ?_
          refine jr_wicmp_ge 84 ok rfl rfl d_Mo_valueOf_63 (by decide) (fun c18 => ?_) (fun c18 => ?_)
          · replace hs := oq_pos c18 hs
            exact jr_lv [0, 1, 2, 3, 4, 5, 6] rfl (B_84 v2 v3 v4 v5 v6 v7 S hs)
          · replace hs := oq_neg c18 hs
            refine jr_aload_n ok 0 d_Mo_valueOf_66 rfl rfl ?_
            refine jr_get (v := .ref (g 2)) ok 0 f_Mo_15 rfl rfl d_Mo_valueOf_67 ?_
            refine jr_iload ok 6 d_Mo_valueOf_70 rfl ?_
            obtain ⟨hb19, hs⟩ := oq_if hs
            refine jr_bald ok 2 rfl rfl hb19.1 hb19.2 d_Mo_valueOf_72 ?_
            refine jr_bipush ok d_Mo_valueOf_73 (by decide +kernel) ?_
            refine jr_wicmp_eq 84 ok rfl (show w32 44 = 44 by decide) d_Mo_valueOf_75 (by decide) (fun c20 => ?_) (fun c20 => ?_)
            · replace hs := oq_pos c20 hs
              exact jr_lv [0, 1, 2, 3, 4, 5, 6] rfl (B_84 v2 v3 v4 v5 v6 v7 S hs)
            · replace hs := oq_neg c20 hs
              refine jr_iinc [(7, .int (ii (v7 + 1))), (0, .ref (g 0)), (2, .int (ii v2)), (3, .int (ii v3)), (4, .int (ii v4)), (5, .int (ii v5)), (6, .int (ii v6))] 6 ok d_Mo_valueOf_78 rfl (by rw [hN]; decide) rfl ?_
              refine jr_goto 59 ok d_Mo_valueOf_81 (by decide) ?_
              exact jr_lv [1, 2, 3, 4, 5, 6, 0] rfl (ih59 v2 v3 v4 v5 v6 (v7 + 1) S hs)
      have B_37 : ∀ (n37 : Nat), ∀ (v2 : Int) (v3 : Int) (v4 : Int) (v5 : Int) (v6 : Int) (S : MS), q_Mo_valueOf_37 (q_Mo_valueOf_26 n26) n37 v2 v3 v4 v5 v6 S = some (r, S9) → jw X 0 0 (moL D g S) [(0, .ref (g 0)), (2, .int (ii v2)), (3, .int (ii v3)), (4, .int (ii v4)), (5, .int (ii v5)), (6, .int (ii v6))] 37 [] := by
        intro n37
        induction n37 with
        | zero =>
          intro v2 v3 v4 v5 v6 S hs
          rw [q_Mo_valueOf_37] at hs; cases hs
        | succ n37 ih37 =>
          intro v2 v3 v4 v5 v6 S hs
          rw [q_Mo_valueOf_37] at hs
          refine jr_aload_n ok 0 d_Mo_valueOf_37 rfl rfl ?_
          refine jr_get (v := .ref (g 2)) ok 0 f_Mo_15 rfl rfl d_Mo_valueOf_38 ?_
          refine jr_iload ok 5 d_Mo_valueOf_41 rfl ?_
          obtain ⟨hb16, hs⟩ := oq_if hs
          refine jr_bald ok 2 rfl rfl hb16.1 hb16.2 d_Mo_valueOf_43 ?_
          refine jr_bipush ok d_Mo_valueOf_44 (by decide +kernel) ?_
          refine jr_wicmp_eq 55 ok rfl (show w32 61 = 61 by decide) d_Mo_valueOf_46 (by decide) (fun c17 => ?_) (fun c17 => ?_)
          · replace hs := oq_pos c17 hs
            refine jr_iload ok 5 d_Mo_valueOf_55 rfl ?_
            refine jr_istore [(7, .int (ii v6)), (0, .ref (g 0)), (2, .int (ii v2)), (3, .int (ii v3)), (4, .int (ii v4)), (5, .int (ii v5)), (6, .int (ii v6))] ok d_Mo_valueOf_57 (by rw [hN]; decide) rfl ?_
            exact jr_lv [1, 2, 3, 4, 5, 6, 0] rfl (B_59 fU v2 v3 v4 v5 v6 v6 S hs)
          · replace hs := oq_neg c17 hs
            refine jr_iinc [(6, .int (ii (v6 + 1))), (0, .ref (g 0)), (2, .int (ii v2)), (3, .int (ii v3)), (4, .int (ii v4)), (5, .int (ii v5))] 5 ok d_Mo_valueOf_49 rfl (by rw [hN]; decide) rfl ?_
            refine jr_goto 37 ok d_Mo_valueOf_52 (by decide) ?_
            exact jr_lv [1, 2, 3, 4, 5, 0] rfl (ih37 v2 v3 v4 v5 (v6 + 1) S hs)
      intro v2 v3 v4 v5 S hs
      rw [q_Mo_valueOf_26] at hs
      refine jr_iload ok 4 d_Mo_valueOf_26 rfl ?_
      refine jr_iload ok 3 d_Mo_valueOf_28 rfl ?_
      refine jr_wicmp_ge 179 ok rfl rfl d_Mo_valueOf_30 (by decide) (fun c15 => ?_) (fun c15 => ?_)
      · replace hs := oq_pos c15 hs
        refine jr_iconst ok d_Mo_valueOf_179 ?_
        exact jm_iret (Lf := moL D g) ok fin hs d_Mo_valueOf_180
      · replace hs := oq_neg c15 hs
        refine jr_iload ok 4 d_Mo_valueOf_33 rfl ?_
        refine jr_istore [(6, .int (ii v5)), (0, .ref (g 0)), (2, .int (ii v2)), (3, .int (ii v3)), (4, .int (ii v4)), (5, .int (ii v5))] ok d_Mo_valueOf_35 (by rw [hN]; decide) rfl ?_
        exact jr_lv [1, 2, 3, 4, 5, 0] rfl (B_37 fU v2 v3 v4 v5 v5 S hs)
  show jw X 0 0 (moL D g S) [(0, .ref (g 0)), (1, .int (ii v1)), (2, .int (ii v2)), (3, .int (ii v3))] 0 []
  rw [s_Mo_valueOf] at hs
  refine jr_aload_n ok 0 d_Mo_valueOf_0 rfl rfl ?_
  refine jr_iconst ok d_Mo_valueOf_1 ?_
  refine jr_put (moL D g (MS.w_m_valueLength S 0)) ok 0 f_Mo_237 rfl rfl rfl (Nat.le_of_ble_eq_true rfl) rfl d_Mo_valueOf_2 ?_
  refine jr_sipush ok d_Mo_valueOf_5 (by decide +kernel) ?_
  refine jr_iload_n ok 1 d_Mo_valueOf_8 rfl rfl ?_
  refine jr_imul ok d_Mo_valueOf_9 ?_
  refine jr_aload_n ok 0 d_Mo_valueOf_10 rfl rfl ?_
  refine jr_get (v := .ref (g 3)) ok 0 f_Mo_18 rfl rfl d_Mo_valueOf_11 ?_
  refine jr_iload_n ok 1 d_Mo_valueOf_14 rfl rfl ?_
  obtain ⟨hb28, hs⟩ := oq_if hs
  refine jr_iald ok 3 rfl rfl hb28.1 hb28.2 d_Mo_valueOf_15 ?_
  show jw X 0 0 (moL D g (MS.w_m_valueLength S 0)) [(0, .ref (g 0)), (1, .int (ii v1)), (2, .int (ii v2)), (3, .int (ii v3))] 16 [.int (ii (S.m_textLengths v1)), .int (ii (304 * v1))]
  refine jr_iadd ok d_Mo_valueOf_16 ?_
  refine jr_istore [(4, .int (ii ((304 * v1) + (S.m_textLengths v1)))), (0, .ref (g 0)), (1, .int (ii v1)), (2, .int (ii v2)), (3, .int (ii v3))] ok d_Mo_valueOf_17 (by rw [hN]; decide) rfl ?_
  refine jr_sipush ok d_Mo_valueOf_19 (by decide +kernel) ?_
  refine jr_iload_n ok 2 d_Mo_valueOf_22 rfl rfl ?_
  refine jr_imul ok d_Mo_valueOf_23 ?_
  refine jr_istore [(5, .int (ii (304 * v1))), (4, .int (ii ((304 * v1) + (S.m_textLengths v1)))), (0, .ref (g 0)), (1, .int (ii v1)), (2, .int (ii v2)), (3, .int (ii v3))] ok d_Mo_valueOf_24 (by rw [hN]; decide) rfl ?_
  exact jr_lv [2, 4, 5, 1, 0] rfl (B_26 fU v2 v3 ((304 * v1) + (S.m_textLengths v1)) (304 * v1) (MS.w_m_valueLength S 0) hs)

def s_Mo_names (S : MS)  : Option (Int × MS) := if w32 S.m_isTable = 0 then some (-1, MS.w_m_code S 0) else some (S.m_names, MS.w_m_code S 0)
set_option maxHeartbeats 4000000 in
set_option maxRecDepth 100000 in
theorem c_Mo_names (l : Launch) (D : jd_T) (g : Nat → Nat) (S : MS)  (r : Int) (S9 : MS) (hs : s_Mo_names S  = some (r, S9)) : jc_C l D y_Mo_names b_Mo_names 1 (some .int) { frames := 0, cells := 0, slots := 0, locals := 0 } [.ref (g 0)] (moL D g S) (fun _ : Unit => (.returned (some (.int (ii r))), True, (moL D g S9))) := by
  refine jc_of rfl (Nat.le_of_ble_eq_true rfl) ?_
  intro X hl hR hN ok hnm fin
  subst hl
  show jw X 0 0 (moL D g S) [(0, .ref (g 0))] 0 []
  rw [s_Mo_names] at hs
  refine jr_aload_n ok 0 d_Mo_names_0 rfl rfl ?_
  refine jr_iconst ok d_Mo_names_1 ?_
  refine jr_put (moL D g (MS.w_m_code S 0)) ok 0 f_Mo_101 rfl rfl rfl (Nat.le_of_ble_eq_true rfl) rfl d_Mo_names_2 ?_
  refine jr_aload_n ok 0 d_Mo_names_5 rfl rfl ?_
  refine jr_get (v := .int (ii S.m_isTable)) ok 0 f_Mo_352 rfl rfl d_Mo_names_6 ?_
  refine jr_wif_eq 19 ok rfl d_Mo_names_9 (by decide) (fun c2 => ?_) (fun c2 => ?_)
  · replace hs := oq_pos c2 hs
    refine jr_iconst ok d_Mo_names_19 ?_
    exact jm_iret (Lf := moL D g) ok fin hs d_Mo_names_20
  · replace hs := oq_neg c2 hs
    refine jr_aload_n ok 0 d_Mo_names_12 rfl rfl ?_
    refine jr_get (v := .int (ii S.m_names)) ok 0 f_Mo_355 rfl rfl d_Mo_names_13 ?_
    refine jr_goto 20 ok d_Mo_names_16 (by decide) ?_
    exact jm_iret (Lf := moL D g) ok fin hs d_Mo_names_20

def s_Mo_isWord (v0 : Int) : Option (Int) := if w32 v0 ≤ 32 then some 0 else if 127 ≤ w32 v0 then some 0 else if w32 v0 = 34 then some 0 else if w32 v0 = 61 then some 0 else if w32 v0 = 44 then some 0 else if w32 v0 = 40 then some 0 else if w32 v0 = 41 then some 0 else if w32 v0 = 123 then some 0 else if w32 v0 = 125 then some 0 else some 1
set_option maxHeartbeats 4000000 in
set_option maxRecDepth 100000 in
theorem c_Mo_isWord (l : Launch) (D : jd_T) (v0 : Int) (r : Int) (hs : s_Mo_isWord v0 = some r) : jc_C l D y_Mo_isWord b_Mo_isWord 1 (some .boolean) { frames := 0, cells := 0, slots := 0, locals := 0 } [.int (ii v0)] [] (fun _ : Unit => (.returned (some (.int (ii r))), True, [])) := by
  refine jc_of rfl (Nat.le_of_ble_eq_true rfl) ?_
  intro X hl hR hN ok hnm fin
  subst hl
  show jw X 0 0 [] [(0, .int (ii v0))] 0 []
  rw [s_Mo_isWord] at hs
  refine jr_iload_n ok 0 d_Mo_isWord_0 rfl rfl ?_
  refine jr_bipush ok d_Mo_isWord_1 (by decide +kernel) ?_
  refine jr_wicmp_le 58 ok rfl (show w32 32 = 32 by decide) d_Mo_isWord_3 (by decide) (fun c10 => ?_) (fun c10 => ?_)
  · replace hs := oq_pos c10 hs
    refine jr_iconst ok d_Mo_isWord_58 ?_
    exact jm_zrets ok (by decide +kernel) fin hs d_Mo_isWord_59
  · replace hs := oq_neg c10 hs
    refine jr_iload_n ok 0 d_Mo_isWord_6 rfl rfl ?_
    refine jr_bipush ok d_Mo_isWord_7 (by decide +kernel) ?_
    refine jr_wicmp_ge 58 ok rfl (show w32 127 = 127 by decide) d_Mo_isWord_9 (by decide) (fun c11 => ?_) (fun c11 => ?_)
    · replace hs := oq_pos c11 hs
      refine jr_iconst ok d_Mo_isWord_58 ?_
      exact jm_zrets ok (by decide +kernel) fin hs d_Mo_isWord_59
    · replace hs := oq_neg c11 hs
      refine jr_iload_n ok 0 d_Mo_isWord_12 rfl rfl ?_
      refine jr_bipush ok d_Mo_isWord_13 (by decide +kernel) ?_
      refine jr_wicmp_eq 58 ok rfl (show w32 34 = 34 by decide) d_Mo_isWord_15 (by decide) (fun c12 => ?_) (fun c12 => ?_)
      · replace hs := oq_pos c12 hs
        refine jr_iconst ok d_Mo_isWord_58 ?_
        exact jm_zrets ok (by decide +kernel) fin hs d_Mo_isWord_59
      · replace hs := oq_neg c12 hs
        refine jr_iload_n ok 0 d_Mo_isWord_18 rfl rfl ?_
        refine jr_bipush ok d_Mo_isWord_19 (by decide +kernel) ?_
        refine jr_wicmp_eq 58 ok rfl (show w32 61 = 61 by decide) d_Mo_isWord_21 (by decide) (fun c13 => ?_) (fun c13 => ?_)
        · replace hs := oq_pos c13 hs
          refine jr_iconst ok d_Mo_isWord_58 ?_
          exact jm_zrets ok (by decide +kernel) fin hs d_Mo_isWord_59
        · replace hs := oq_neg c13 hs
          refine jr_iload_n ok 0 d_Mo_isWord_24 rfl rfl ?_
          refine jr_bipush ok d_Mo_isWord_25 (by decide +kernel) ?_
          refine jr_wicmp_eq 58 ok rfl (show w32 44 = 44 by decide) d_Mo_isWord_27 (by decide) (fun c14 => ?_) (fun c14 => ?_)
          · replace hs := oq_pos c14 hs
            refine jr_iconst ok d_Mo_isWord_58 ?_
            exact jm_zrets ok (by decide +kernel) fin hs d_Mo_isWord_59
          · replace hs := oq_neg c14 hs
            refine jr_iload_n ok 0 d_Mo_isWord_30 rfl rfl ?_
            refine jr_bipush ok d_Mo_isWord_31 (by decide +kernel) ?_
            refine jr_wicmp_eq 58 ok rfl (show w32 40 = 40 by decide) d_Mo_isWord_33 (by decide) (fun c15 => ?_) (fun c15 => ?_)
            · replace hs := oq_pos c15 hs
              refine jr_iconst ok d_Mo_isWord_58 ?_
              exact jm_zrets ok (by decide +kernel) fin hs d_Mo_isWord_59
            · replace hs := oq_neg c15 hs
              refine jr_iload_n ok 0 d_Mo_isWord_36 rfl rfl ?_
              refine jr_bipush ok d_Mo_isWord_37 (by decide +kernel) ?_
              refine jr_wicmp_eq 58 ok rfl (show w32 41 = 41 by decide) d_Mo_isWord_39 (by decide) (fun c16 => ?_) (fun c16 => ?_)
              · replace hs := oq_pos c16 hs
                refine jr_iconst ok d_Mo_isWord_58 ?_
                exact jm_zrets ok (by decide +kernel) fin hs d_Mo_isWord_59
              · replace hs := oq_neg c16 hs
                refine jr_iload_n ok 0 d_Mo_isWord_42 rfl rfl ?_
                refine jr_bipush ok d_Mo_isWord_43 (by decide +kernel) ?_
                refine jr_wicmp_eq 58 ok rfl (show w32 123 = 123 by decide) d_Mo_isWord_45 (by decide) (fun c17 => ?_) (fun c17 => ?_)
                · replace hs := oq_pos c17 hs
                  refine jr_iconst ok d_Mo_isWord_58 ?_
                  exact jm_zrets ok (by decide +kernel) fin hs d_Mo_isWord_59
                · replace hs := oq_neg c17 hs
                  refine jr_iload_n ok 0 d_Mo_isWord_48 rfl rfl ?_
                  refine jr_bipush ok d_Mo_isWord_49 (by decide +kernel) ?_
                  refine jr_wicmp_eq 58 ok rfl (show w32 125 = 125 by decide) d_Mo_isWord_51 (by decide) (fun c18 => ?_) (fun c18 => ?_)
                  · replace hs := oq_pos c18 hs
                    refine jr_iconst ok d_Mo_isWord_58 ?_
                    exact jm_zrets ok (by decide +kernel) fin hs d_Mo_isWord_59
                  · replace hs := oq_neg c18 hs
                    refine jr_iconst ok d_Mo_isWord_54 ?_
                    refine jr_goto 59 ok d_Mo_isWord_55 (by decide) ?_
                    exact jm_zrets ok (by decide +kernel) fin hs d_Mo_isWord_59

def s_Mo_isSeries (S : MS) (v1 : Int) : Option (Int × MS) := if w32 v1 < 0 then some (0, S) else if w32 S.m_seriesCount ≤ w32 v1 then some (0, S) else some (1, S)
set_option maxHeartbeats 4000000 in
set_option maxRecDepth 100000 in
theorem c_Mo_isSeries (l : Launch) (D : jd_T) (g : Nat → Nat) (S : MS) (v1 : Int) (r : Int) (S9 : MS) (hs : s_Mo_isSeries S v1 = some (r, S9)) : jc_C l D y_Mo_isSeries b_Mo_isSeries 2 (some .boolean) { frames := 0, cells := 0, slots := 0, locals := 0 } [.ref (g 0), .int (ii v1)] (moL D g S) (fun _ : Unit => (.returned (some (.int (ii r))), True, (moL D g S9))) := by
  refine jc_of rfl (Nat.le_of_ble_eq_true rfl) ?_
  intro X hl hR hN ok hnm fin
  subst hl
  show jw X 0 0 (moL D g S) [(0, .ref (g 0)), (1, .int (ii v1))] 0 []
  rw [s_Mo_isSeries] at hs
  refine jr_iload_n ok 1 d_Mo_isSeries_0 rfl rfl ?_
  refine jr_wif_lt 16 ok rfl d_Mo_isSeries_1 (by decide) (fun c3 => ?_) (fun c3 => ?_)
  · replace hs := oq_pos c3 hs
    refine jr_iconst ok d_Mo_isSeries_16 ?_
    exact jm_zret (Lf := moL D g) ok (by decide +kernel) fin hs d_Mo_isSeries_17
  · replace hs := oq_neg c3 hs
    refine jr_iload_n ok 1 d_Mo_isSeries_4 rfl rfl ?_
    refine jr_aload_n ok 0 d_Mo_isSeries_5 rfl rfl ?_
    refine jr_get (v := .int (ii S.m_seriesCount)) ok 0 f_Mo_133 rfl rfl d_Mo_isSeries_6 ?_
    refine jr_wicmp_ge 16 ok rfl rfl d_Mo_isSeries_9 (by decide) (fun c4 => ?_) (fun c4 => ?_)
    · replace hs := oq_pos c4 hs
      refine jr_iconst ok d_Mo_isSeries_16 ?_
      exact jm_zret (Lf := moL D g) ok (by decide +kernel) fin hs d_Mo_isSeries_17
    · replace hs := oq_neg c4 hs
      refine jr_iconst ok d_Mo_isSeries_12 ?_
      refine jr_goto 17 ok d_Mo_isSeries_13 (by decide) ?_
      exact jm_zret (Lf := moL D g) ok (by decide +kernel) fin hs d_Mo_isSeries_17

def q_Mo_tidy_76 (k4 : Int → Int → MS → Option (Unit × MS)) (v1 : Int) (v2 : Int) (S : MS) : Option (Unit × MS) := k4 v1 (v2 + 1) S

def q_Mo_tidy_4 : Nat → Int → Int → MS → Option (Unit × MS)
  | 0, _, _, _ => none
  | n + 1, v1, v2, S => if w32 S.m_points ≤ w32 v2 then some ((), MS.w_m_points S v1) else if (0 : Int) ≤ v2 ∧ v2 < (8192 : Int) then if w32 (S.m_places v2) = 2 then q_Mo_tidy_76 (q_Mo_tidy_4 n) v1 v2 S else if (0 : Int) ≤ v2 ∧ v2 < (8192 : Int) then if (0 : Int) ≤ v1 ∧ v1 < (8192 : Int) then if (0 : Int) ≤ v2 ∧ v2 < (8192 : Int) then if (0 : Int) ≤ v1 ∧ v1 < (8192 : Int) then if (0 : Int) ≤ v2 ∧ v2 < (8192 : Int) then if (0 : Int) ≤ v1 ∧ v1 < (8192 : Int) then if (0 : Int) ≤ v2 ∧ v2 < (8192 : Int) then if (0 : Int) ≤ v1 ∧ v1 < (8192 : Int) then if -128 ≤ (S.m_places v2) ∧ (S.m_places v2) ≤ 127 then q_Mo_tidy_76 (q_Mo_tidy_4 n) (v1 + 1) v2 (MS.w_m_places (MS.w_m_pointValues (MS.w_m_pointTimes (MS.w_m_pointSeries S (aU S.m_pointSeries v1 (S.m_pointSeries v2))) (aU S.m_pointTimes v1 (S.m_pointTimes v2))) (aU S.m_pointValues v1 (S.m_pointValues v2))) (aU S.m_places v1 (S.m_places v2))) else none else none else none else none else none else none else none else none else none else none

def s_Mo_tidy (S : MS)  : Option (Unit × MS) := q_Mo_tidy_4 fU 0 0 S
set_option maxHeartbeats 4000000 in
set_option maxRecDepth 100000 in
theorem c_Mo_tidy (l : Launch) (D : jd_T) (g : Nat → Nat) (S : MS)  (r : Unit) (S9 : MS) (hs : s_Mo_tidy S  = some (r, S9)) : jc_C l D y_Mo_tidy b_Mo_tidy 3 none { frames := 0, cells := 0, slots := 0, locals := 0 } [.ref (g 0)] (moL D g S) (fun _ : Unit => (.returned (none), True, (moL D g S9))) := by
  refine jc_of rfl (Nat.le_of_ble_eq_true rfl) ?_
  intro X hl hR hN ok hnm fin
  subst hl
  have B_4 : ∀ (n4 : Nat), ∀ (v1 : Int) (v2 : Int) (S : MS), q_Mo_tidy_4 n4 v1 v2 S = some (r, S9) → jw X 0 0 (moL D g S) [(0, .ref (g 0)), (1, .int (ii v1)), (2, .int (ii v2))] 4 [] := by
    intro n4
    induction n4 with
    | zero =>
      intro v1 v2 S hs
      rw [q_Mo_tidy_4] at hs; cases hs
    | succ n4 ih4 =>
      have B_76 : ∀ (v1 : Int) (v2 : Int) (S : MS), q_Mo_tidy_76 (q_Mo_tidy_4 n4) v1 v2 S = some (r, S9) → jw X 0 0 (moL D g S) [(0, .ref (g 0)), (1, .int (ii v1)), (2, .int (ii v2))] 76 [] := by
        intro v1 v2 S hs
        rw [q_Mo_tidy_76] at hs
        refine jr_iinc [(2, .int (ii (v2 + 1))), (0, .ref (g 0)), (1, .int (ii v1))] 2 ok d_Mo_tidy_76 rfl (by rw [hN]; decide) rfl ?_
        refine jr_goto 4 ok d_Mo_tidy_79 (by decide) ?_
        exact jr_lv [1, 2, 0] rfl (ih4 v1 (v2 + 1) S hs)
      intro v1 v2 S hs
      rw [q_Mo_tidy_4] at hs
      refine jr_iload_n ok 2 d_Mo_tidy_4 rfl rfl ?_
      refine jr_aload_n ok 0 d_Mo_tidy_5 rfl rfl ?_
      refine jr_get (v := .int (ii S.m_points)) ok 0 f_Mo_152 rfl rfl d_Mo_tidy_6 ?_
      refine jr_wicmp_ge 82 ok rfl rfl d_Mo_tidy_9 (by decide) (fun c13 => ?_) (fun c13 => ?_)
      · replace hs := oq_pos c13 hs
        refine jr_aload_n ok 0 d_Mo_tidy_82 rfl rfl ?_
        refine jr_iload_n ok 1 d_Mo_tidy_83 rfl rfl ?_
        refine jr_put (moL D g (MS.w_m_points S v1)) ok 0 f_Mo_152 rfl rfl rfl (Nat.le_of_ble_eq_true rfl) rfl d_Mo_tidy_84 ?_
        exact jm_vret (Lf := moL D g) ok fin hs d_Mo_tidy_87
      · replace hs := oq_neg c13 hs
        refine jr_aload_n ok 0 d_Mo_tidy_12 rfl rfl ?_
        refine jr_get (v := .ref (g 8)) ok 0 f_Mo_35 rfl rfl d_Mo_tidy_13 ?_
        refine jr_iload_n ok 2 d_Mo_tidy_16 rfl rfl ?_
        obtain ⟨hb14, hs⟩ := oq_if hs
        refine jr_bald ok 8 rfl rfl hb14.1 hb14.2 d_Mo_tidy_17 ?_
        refine jr_iconst ok d_Mo_tidy_18 ?_
        refine jr_wicmp_ne 25 ok rfl (show w32 2 = 2 by decide) d_Mo_tidy_19 (by decide) (fun c15 => ?_) (fun c15 => ?_)
        · replace hs := oq_neg c15 hs
          refine jr_aload_n ok 0 d_Mo_tidy_25 rfl rfl ?_
          refine jr_get (v := .ref (g 5)) ok 0 f_Mo_26 rfl rfl d_Mo_tidy_26 ?_
          refine jr_iload_n ok 1 d_Mo_tidy_29 rfl rfl ?_
          refine jr_aload_n ok 0 d_Mo_tidy_30 rfl rfl ?_
          refine jr_get (v := .ref (g 5)) ok 0 f_Mo_26 rfl rfl d_Mo_tidy_31 ?_
          refine jr_iload_n ok 2 d_Mo_tidy_34 rfl rfl ?_
          obtain ⟨hb16, hs⟩ := oq_if hs
          refine jr_iald ok 5 rfl rfl hb16.1 hb16.2 d_Mo_tidy_35 ?_
          obtain ⟨hb17, hs⟩ := oq_if hs
          refine jr_iast (moL D g (MS.w_m_pointSeries S (aU S.m_pointSeries v1 (S.m_pointSeries v2)))) ok 5 rfl rfl hb17.1 hb17.2  rfl d_Mo_tidy_36 ?_
          refine jr_aload_n ok 0 d_Mo_tidy_37 rfl rfl ?_
          refine jr_get (v := .ref (g 6)) ok 0 f_Mo_29 rfl rfl d_Mo_tidy_38 ?_
          refine jr_iload_n ok 1 d_Mo_tidy_41 rfl rfl ?_
          refine jr_aload_n ok 0 d_Mo_tidy_42 rfl rfl ?_
          refine jr_get (v := .ref (g 6)) ok 0 f_Mo_29 rfl rfl d_Mo_tidy_43 ?_
          refine jr_iload_n ok 2 d_Mo_tidy_46 rfl rfl ?_
          obtain ⟨hb18, hs⟩ := oq_if hs
          refine jr_lald ok 6 rfl rfl hb18.1 hb18.2 d_Mo_tidy_47 ?_
          show jw X 0 0 (moL D g (MS.w_m_pointSeries S (aU S.m_pointSeries v1 (S.m_pointSeries v2)))) [(0, .ref (g 0)), (1, .int (ii v1)), (2, .int (ii v2))] 48 [.long (S.m_pointTimes v2), .int (ii v1), .ref (g 6)]
          obtain ⟨hb19, hs⟩ := oq_if hs
          refine jr_last (moL D g (MS.w_m_pointTimes (MS.w_m_pointSeries S (aU S.m_pointSeries v1 (S.m_pointSeries v2))) (aU S.m_pointTimes v1 (S.m_pointTimes v2)))) ok 6 rfl rfl hb19.1 hb19.2  rfl d_Mo_tidy_48 ?_
          refine jr_aload_n ok 0 d_Mo_tidy_49 rfl rfl ?_
          refine jr_get (v := .ref (g 7)) ok 0 f_Mo_32 rfl rfl d_Mo_tidy_50 ?_
          refine jr_iload_n ok 1 d_Mo_tidy_53 rfl rfl ?_
          refine jr_aload_n ok 0 d_Mo_tidy_54 rfl rfl ?_
          refine jr_get (v := .ref (g 7)) ok 0 f_Mo_32 rfl rfl d_Mo_tidy_55 ?_
          refine jr_iload_n ok 2 d_Mo_tidy_58 rfl rfl ?_
          obtain ⟨hb20, hs⟩ := oq_if hs
          refine jr_lald ok 7 rfl rfl hb20.1 hb20.2 d_Mo_tidy_59 ?_
          show jw X 0 0 (moL D g (MS.w_m_pointTimes (MS.w_m_pointSeries S (aU S.m_pointSeries v1 (S.m_pointSeries v2))) (aU S.m_pointTimes v1 (S.m_pointTimes v2)))) [(0, .ref (g 0)), (1, .int (ii v1)), (2, .int (ii v2))] 60 [.long (S.m_pointValues v2), .int (ii v1), .ref (g 7)]
          obtain ⟨hb21, hs⟩ := oq_if hs
          refine jr_last (moL D g (MS.w_m_pointValues (MS.w_m_pointTimes (MS.w_m_pointSeries S (aU S.m_pointSeries v1 (S.m_pointSeries v2))) (aU S.m_pointTimes v1 (S.m_pointTimes v2))) (aU S.m_pointValues v1 (S.m_pointValues v2)))) ok 7 rfl rfl hb21.1 hb21.2  rfl d_Mo_tidy_60 ?_
          refine jr_aload_n ok 0 d_Mo_tidy_61 rfl rfl ?_
          refine jr_get (v := .ref (g 8)) ok 0 f_Mo_35 rfl rfl d_Mo_tidy_62 ?_
          refine jr_iload_n ok 1 d_Mo_tidy_65 rfl rfl ?_
          refine jr_aload_n ok 0 d_Mo_tidy_66 rfl rfl ?_
          refine jr_get (v := .ref (g 8)) ok 0 f_Mo_35 rfl rfl d_Mo_tidy_67 ?_
          refine jr_iload_n ok 2 d_Mo_tidy_70 rfl rfl ?_
          obtain ⟨hb22, hs⟩ := oq_if hs
          refine jr_bald ok 8 rfl rfl hb22.1 hb22.2 d_Mo_tidy_71 ?_
          show jw X 0 0 (moL D g (MS.w_m_pointValues (MS.w_m_pointTimes (MS.w_m_pointSeries S (aU S.m_pointSeries v1 (S.m_pointSeries v2))) (aU S.m_pointTimes v1 (S.m_pointTimes v2))) (aU S.m_pointValues v1 (S.m_pointValues v2)))) [(0, .ref (g 0)), (1, .int (ii v1)), (2, .int (ii v2))] 72 [.int (ii (S.m_places v2)), .int (ii v1), .ref (g 8)]
          obtain ⟨hb23, hs⟩ := oq_if hs
          obtain ⟨hb24, hs⟩ := oq_if hs
          refine jr_bast (moL D g (MS.w_m_places (MS.w_m_pointValues (MS.w_m_pointTimes (MS.w_m_pointSeries S (aU S.m_pointSeries v1 (S.m_pointSeries v2))) (aU S.m_pointTimes v1 (S.m_pointTimes v2))) (aU S.m_pointValues v1 (S.m_pointValues v2))) (aU S.m_places v1 (S.m_places v2)))) ok 8 rfl rfl hb23.1 hb23.2 (nar_b hb24) rfl d_Mo_tidy_72 ?_
          refine jr_iinc [(1, .int (ii (v1 + 1))), (0, .ref (g 0)), (2, .int (ii v2))] 1 ok d_Mo_tidy_73 rfl (by rw [hN]; decide) rfl ?_
          exact jr_lv [1, 0, 2] rfl (B_76 (v1 + 1) v2 (MS.w_m_places (MS.w_m_pointValues (MS.w_m_pointTimes (MS.w_m_pointSeries S (aU S.m_pointSeries v1 (S.m_pointSeries v2))) (aU S.m_pointTimes v1 (S.m_pointTimes v2))) (aU S.m_pointValues v1 (S.m_pointValues v2))) (aU S.m_places v1 (S.m_places v2))) hs)
        · replace hs := oq_pos c15 hs
          refine jr_goto 76 ok d_Mo_tidy_22 (by decide) ?_
          exact jr_lv [0, 1, 2] rfl (B_76 v1 v2 S hs)
  show jw X 0 0 (moL D g S) [(0, .ref (g 0))] 0 []
  rw [s_Mo_tidy] at hs
  refine jr_iconst ok d_Mo_tidy_0 ?_
  refine jr_istore_n [(1, .int (ii 0)), (0, .ref (g 0))] ok d_Mo_tidy_1 rfl (by rw [hN]; decide) rfl ?_
  refine jr_iconst ok d_Mo_tidy_2 ?_
  refine jr_istore_n [(2, .int (ii 0)), (1, .int (ii 0)), (0, .ref (g 0))] ok d_Mo_tidy_3 rfl (by rw [hN]; decide) rfl ?_
  exact jr_lv [2, 1, 0] rfl (B_4 fU 0 0 S hs)

def q_Mo_isLetter_30  : Option (Int) := some 1

def q_Mo_isLetter_24 (v0 : Int) : Option (Int) := if w32 v0 = 95 then q_Mo_isLetter_30  else some 0

def q_Mo_isLetter_12 (v0 : Int) : Option (Int) := if w32 v0 < 65 then q_Mo_isLetter_24 v0 else if w32 v0 ≤ 90 then q_Mo_isLetter_30  else q_Mo_isLetter_24 v0

def s_Mo_isLetter (v0 : Int) : Option (Int) := if w32 v0 < 97 then q_Mo_isLetter_12 v0 else if w32 v0 ≤ 122 then q_Mo_isLetter_30  else q_Mo_isLetter_12 v0
set_option maxHeartbeats 4000000 in
set_option maxRecDepth 100000 in
theorem c_Mo_isLetter (l : Launch) (D : jd_T) (v0 : Int) (r : Int) (hs : s_Mo_isLetter v0 = some r) : jc_C l D y_Mo_isLetter b_Mo_isLetter 1 (some .boolean) { frames := 0, cells := 0, slots := 0, locals := 0 } [.int (ii v0)] [] (fun _ : Unit => (.returned (some (.int (ii r))), True, [])) := by
  refine jc_of rfl (Nat.le_of_ble_eq_true rfl) ?_
  intro X hl hR hN ok hnm fin
  subst hl
  have B_30 : q_Mo_isLetter_30  = some r → jw X 0 0 [] [] 30 [] := by
    intro  hs
    rw [q_Mo_isLetter_30] at hs
    refine jr_iconst ok d_Mo_isLetter_30 ?_
    refine jr_goto 35 ok d_Mo_isLetter_31 (by decide) ?_
    exact jm_zrets ok (by decide +kernel) fin hs d_Mo_isLetter_35
  have B_24 : ∀ (v0 : Int), q_Mo_isLetter_24 v0 = some r → jw X 0 0 [] [(0, .int (ii v0))] 24 [] := by
    intro v0 hs
    rw [q_Mo_isLetter_24] at hs
    refine jr_iload_n ok 0 d_Mo_isLetter_24 rfl rfl ?_
    refine jr_bipush ok d_Mo_isLetter_25 (by decide +kernel) ?_
    refine jr_wicmp_ne 34 ok rfl (show w32 95 = 95 by decide) d_Mo_isLetter_27 (by decide) (fun c8 => ?_) (fun c8 => ?_)
    · replace hs := oq_neg c8 hs
      refine jr_iconst ok d_Mo_isLetter_34 ?_
      exact jm_zrets ok (by decide +kernel) fin hs d_Mo_isLetter_35
    · replace hs := oq_pos c8 hs
      exact jr_lv [] rfl (B_30  hs)
  have B_12 : ∀ (v0 : Int), q_Mo_isLetter_12 v0 = some r → jw X 0 0 [] [(0, .int (ii v0))] 12 [] := by
    intro v0 hs
    rw [q_Mo_isLetter_12] at hs
    refine jr_iload_n ok 0 d_Mo_isLetter_12 rfl rfl ?_
    refine jr_bipush ok d_Mo_isLetter_13 (by decide +kernel) ?_
    refine jr_wicmp_lt 24 ok rfl (show w32 65 = 65 by decide) d_Mo_isLetter_15 (by decide) (fun c6 => ?_) (fun c6 => ?_)
    · replace hs := oq_pos c6 hs
      exact jr_lv [0] rfl (B_24 v0 hs)
    · replace hs := oq_neg c6 hs
      refine jr_iload_n ok 0 d_Mo_isLetter_18 rfl rfl ?_
      refine jr_bipush ok d_Mo_isLetter_19 (by decide +kernel) ?_
      refine jr_wicmp_le 30 ok rfl (show w32 90 = 90 by decide) d_Mo_isLetter_21 (by decide) (fun c7 => ?_) (fun c7 => ?_)
      · replace hs := oq_pos c7 hs
        exact jr_lv [] rfl (B_30  hs)
      · replace hs := oq_neg c7 hs
        exact jr_lv [0] rfl (B_24 v0 hs)
  show jw X 0 0 [] [(0, .int (ii v0))] 0 []
  rw [s_Mo_isLetter] at hs
  refine jr_iload_n ok 0 d_Mo_isLetter_0 rfl rfl ?_
  refine jr_bipush ok d_Mo_isLetter_1 (by decide +kernel) ?_
  refine jr_wicmp_lt 12 ok rfl (show w32 97 = 97 by decide) d_Mo_isLetter_3 (by decide) (fun c9 => ?_) (fun c9 => ?_)
  · replace hs := oq_pos c9 hs
    exact jr_lv [0] rfl (B_12 v0 hs)
  · replace hs := oq_neg c9 hs
    refine jr_iload_n ok 0 d_Mo_isLetter_6 rfl rfl ?_
    refine jr_bipush ok d_Mo_isLetter_7 (by decide +kernel) ?_
    refine jr_wicmp_le 30 ok rfl (show w32 122 = 122 by decide) d_Mo_isLetter_9 (by decide) (fun c10 => ?_) (fun c10 => ?_)
    · replace hs := oq_pos c10 hs
      exact jr_lv [] rfl (B_30  hs)
    · replace hs := oq_neg c10 hs
      exact jr_lv [0] rfl (B_12 v0 hs)

def s_Mo_cellAt (S : MS) (v1 : Int) (v2 : Int) (v3 : Int) : Option (Int × MS) := if (0 : Int) ≤ v1 ∧ v1 < (21 : Int) then some (((S.m_starts v1) + (v2 * S.m_windows)) + v3, S) else none
set_option maxHeartbeats 4000000 in
set_option maxRecDepth 100000 in
theorem c_Mo_cellAt (l : Launch) (D : jd_T) (g : Nat → Nat) (S : MS) (v1 : Int) (v2 : Int) (v3 : Int) (r : Int) (S9 : MS) (hs : s_Mo_cellAt S v1 v2 v3 = some (r, S9)) : jc_C l D y_Mo_cellAt b_Mo_cellAt 4 (some .int) { frames := 0, cells := 0, slots := 0, locals := 0 } [.ref (g 0), .int (ii v1), .int (ii v2), .int (ii v3)] (moL D g S) (fun _ : Unit => (.returned (some (.int (ii r))), True, (moL D g S9))) := by
  refine jc_of rfl (Nat.le_of_ble_eq_true rfl) ?_
  intro X hl hR hN ok hnm fin
  subst hl
  show jw X 0 0 (moL D g S) [(0, .ref (g 0)), (1, .int (ii v1)), (2, .int (ii v2)), (3, .int (ii v3))] 0 []
  rw [s_Mo_cellAt] at hs
  refine jr_aload_n ok 0 d_Mo_cellAt_0 rfl rfl ?_
  refine jr_get (v := .ref (g 17)) ok 0 f_Mo_64 rfl rfl d_Mo_cellAt_1 ?_
  refine jr_iload_n ok 1 d_Mo_cellAt_4 rfl rfl ?_
  obtain ⟨hb2, hs⟩ := oq_if hs
  refine jr_iald ok 17 rfl rfl hb2.1 hb2.2 d_Mo_cellAt_5 ?_
  refine jr_iload_n ok 2 d_Mo_cellAt_6 rfl rfl ?_
  refine jr_aload_n ok 0 d_Mo_cellAt_7 rfl rfl ?_
  refine jr_get (v := .int (ii S.m_windows)) ok 0 f_Mo_234 rfl rfl d_Mo_cellAt_8 ?_
  refine jr_imul ok d_Mo_cellAt_11 ?_
  refine jr_iadd ok d_Mo_cellAt_12 ?_
  refine jr_iload_n ok 3 d_Mo_cellAt_13 rfl rfl ?_
  refine jr_iadd ok d_Mo_cellAt_14 ?_
  exact jm_iret (Lf := moL D g) ok fin hs d_Mo_cellAt_15

def q_Mo_hasSameNames_145 (k24 : Int → Int → Int → Int → MS → Option (Int × MS)) (v1 : Int) (v2 : Int) (v3 : Int) (v4 : Int) (S : MS) : Option (Int × MS) := k24 v1 v2 v3 (v4 + 1) S

def q_Mo_hasSameNames_138 (k24 : Int → Int → Int → Int → MS → Option (Int × MS)) (k79 : Int → Int → Int → Int → Int → Int → MS → Option (Int × MS)) (v1 : Int) (v2 : Int) (v4 : Int) (v5 : Int) (v6 : Int) (t0 : Int) (S : MS) : Option (Int × MS) := k79 v1 v2 t0 v4 v5 (v6 + 1) S

def q_Mo_hasSameNames_79 (k24 : Int → Int → Int → Int → MS → Option (Int × MS)) : Nat → Int → Int → Int → Int → Int → Int → MS → Option (Int × MS)
  | 0, _, _, _, _, _, _, _ => none
  | n + 1, v1, v2, v3, v4, v5, v6, S => if w32 v5 ≤ w32 v6 then q_Mo_hasSameNames_145 k24 v1 v2 v3 v4 S else if w32 v3 = 0 then q_Mo_hasSameNames_145 k24 v1 v2 v3 v4 S else if (0 : Int) ≤ ((6 * v1) + v4) ∧ ((6 * v1) + v4) < (120 : Int) then if (0 : Int) ≤ ((S.m_nameFroms ((6 * v1) + v4)) + v6) ∧ ((S.m_nameFroms ((6 * v1) + v4)) + v6) < (65536 : Int) then if (0 : Int) ≤ ((6 * v2) + v4) ∧ ((6 * v2) + v4) < (120 : Int) then if (0 : Int) ≤ ((S.m_nameFroms ((6 * v2) + v4)) + v6) ∧ ((S.m_nameFroms ((6 * v2) + v4)) + v6) < (65536 : Int) then if w32 (S.m_tape ((S.m_nameFroms ((6 * v1) + v4)) + v6)) = w32 (S.m_tape ((S.m_nameFroms ((6 * v2) + v4)) + v6)) then q_Mo_hasSameNames_138 k24 (q_Mo_hasSameNames_79 k24 n) v1 v2 v4 v5 v6 1 S else q_Mo_hasSameNames_138 k24 (q_Mo_hasSameNames_79 k24 n) v1 v2 v4 v5 v6 0 S else none else none else none else none

def q_Mo_hasSameNames_75 (k24 : Int → Int → Int → Int → MS → Option (Int × MS)) (v1 : Int) (v2 : Int) (v4 : Int) (v5 : Int) (t0 : Int) (S : MS) : Option (Int × MS) := q_Mo_hasSameNames_79 k24 fU v1 v2 t0 v4 v5 0 S

def q_Mo_hasSameNames_24 : Nat → Int → Int → Int → Int → MS → Option (Int × MS)
  | 0, _, _, _, _, _ => none
  | n + 1, v1, v2, v3, v4, S => if (0 : Int) ≤ v1 ∧ v1 < (20 : Int) then if w32 (S.m_tableNames v1) ≤ w32 v4 then if v3 = 0 ∨ v3 = 1 then some (v3, S) else none else if w32 v3 = 0 then if v3 = 0 ∨ v3 = 1 then some (v3, S) else none else if (0 : Int) ≤ ((6 * v1) + v4) ∧ ((6 * v1) + v4) < (120 : Int) then if (0 : Int) ≤ ((6 * v2) + v4) ∧ ((6 * v2) + v4) < (120 : Int) then if w32 (S.m_nameLengths ((6 * v1) + v4)) = w32 (S.m_nameLengths ((6 * v2) + v4)) then q_Mo_hasSameNames_75 (q_Mo_hasSameNames_24 n) v1 v2 v4 (S.m_nameLengths ((6 * v1) + v4)) 1 S else q_Mo_hasSameNames_75 (q_Mo_hasSameNames_24 n) v1 v2 v4 (S.m_nameLengths ((6 * v1) + v4)) 0 S else none else none else none

def q_Mo_hasSameNames_20 (v1 : Int) (v2 : Int) (t0 : Int) (S : MS) : Option (Int × MS) := q_Mo_hasSameNames_24 fU v1 v2 t0 0 S

def s_Mo_hasSameNames (S : MS) (v1 : Int) (v2 : Int) : Option (Int × MS) := if (0 : Int) ≤ v1 ∧ v1 < (20 : Int) then if (0 : Int) ≤ v2 ∧ v2 < (20 : Int) then if w32 (S.m_tableNames v1) = w32 (S.m_tableNames v2) then q_Mo_hasSameNames_20 v1 v2 1 S else q_Mo_hasSameNames_20 v1 v2 0 S else none else none
set_option maxHeartbeats 4000000 in
set_option maxRecDepth 100000 in
theorem c_Mo_hasSameNames (l : Launch) (D : jd_T) (g : Nat → Nat) (S : MS) (v1 : Int) (v2 : Int) (r : Int) (S9 : MS) (hs : s_Mo_hasSameNames S v1 v2 = some (r, S9)) : jc_C l D y_Mo_hasSameNames b_Mo_hasSameNames 7 (some .boolean) { frames := 0, cells := 0, slots := 0, locals := 0 } [.ref (g 0), .int (ii v1), .int (ii v2)] (moL D g S) (fun _ : Unit => (.returned (some (.int (ii r))), True, (moL D g S9))) := by
  refine jc_of rfl (Nat.le_of_ble_eq_true rfl) ?_
  intro X hl hR hN ok hnm fin
  subst hl
  have B_24 : ∀ (n24 : Nat), ∀ (v1 : Int) (v2 : Int) (v3 : Int) (v4 : Int) (S : MS), q_Mo_hasSameNames_24 n24 v1 v2 v3 v4 S = some (r, S9) → jw X 0 0 (moL D g S) [(0, .ref (g 0)), (1, .int (ii v1)), (2, .int (ii v2)), (3, .int (ii v3)), (4, .int (ii v4))] 24 [] := by
    intro n24
    induction n24 with
    | zero =>
      intro v1 v2 v3 v4 S hs
      rw [q_Mo_hasSameNames_24] at hs; cases hs
    | succ n24 ih24 =>
      have B_145 : ∀ (v1 : Int) (v2 : Int) (v3 : Int) (v4 : Int) (S : MS), q_Mo_hasSameNames_145 (q_Mo_hasSameNames_24 n24) v1 v2 v3 v4 S = some (r, S9) → jw X 0 0 (moL D g S) [(0, .ref (g 0)), (1, .int (ii v1)), (2, .int (ii v2)), (3, .int (ii v3)), (4, .int (ii v4))] 145 [] := by
        intro v1 v2 v3 v4 S hs
        rw [q_Mo_hasSameNames_145] at hs
        refine jr_iinc [(4, .int (ii (v4 + 1))), (0, .ref (g 0)), (1, .int (ii v1)), (2, .int (ii v2)), (3, .int (ii v3))] 4 ok d_Mo_hasSameNames_145 rfl (by rw [hN]; decide) rfl ?_
        refine jr_goto 24 ok d_Mo_hasSameNames_148 (by decide) ?_
        exact jr_lv [1, 2, 3, 4, 0] rfl (ih24 v1 v2 v3 (v4 + 1) S hs)
      have B_79 : ∀ (n79 : Nat), ∀ (v1 : Int) (v2 : Int) (v3 : Int) (v4 : Int) (v5 : Int) (v6 : Int) (S : MS), q_Mo_hasSameNames_79 (q_Mo_hasSameNames_24 n24) n79 v1 v2 v3 v4 v5 v6 S = some (r, S9) → jw X 0 0 (moL D g S) [(0, .ref (g 0)), (1, .int (ii v1)), (2, .int (ii v2)), (3, .int (ii v3)), (4, .int (ii v4)), (5, .int (ii v5)), (6, .int (ii v6))] 79 [] := by
        intro n79
        induction n79 with
        | zero =>
          intro v1 v2 v3 v4 v5 v6 S hs
          rw [q_Mo_hasSameNames_79] at hs; cases hs
        | succ n79 ih79 =>
          have B_138 : ∀ (v1 : Int) (v2 : Int) (v4 : Int) (v5 : Int) (v6 : Int) (t0 : Int) (S : MS), q_Mo_hasSameNames_138 (q_Mo_hasSameNames_24 n24) (q_Mo_hasSameNames_79 (q_Mo_hasSameNames_24 n24) n79) v1 v2 v4 v5 v6 t0 S = some (r, S9) → jw X 0 0 (moL D g S) [(0, .ref (g 0)), (1, .int (ii v1)), (2, .int (ii v2)), (4, .int (ii v4)), (5, .int (ii v5)), (6, .int (ii v6))] 138 [.int (ii t0)] := by
            intro v1 v2 v4 v5 v6 t0 S hs
            rw [q_Mo_hasSameNames_138] at hs
            refine jr_istore_n [(3, .int (ii t0)), (0, .ref (g 0)), (1, .int (ii v1)), (2, .int (ii v2)), (4, .int (ii v4)), (5, .int (ii v5)), (6, .int (ii v6))] ok d_Mo_hasSameNames_138 rfl (by rw [hN]; decide) rfl ?_
            refine jr_iinc [(6, .int (ii (v6 + 1))), (3, .int (ii t0)), (0, .ref (g 0)), (1, .int (ii v1)), (2, .int (ii v2)), (4, .int (ii v4)), (5, .int (ii v5))] 6 ok d_Mo_hasSameNames_139 rfl (by rw [hN]; decide) rfl ?_
            refine jr_goto 79 ok d_Mo_hasSameNames_142 (by decide) ?_
            exact jr_lv [2, 3, 4, 1, 5, 6, 0] rfl (ih79 v1 v2 t0 v4 v5 (v6 + 1) S hs)
          intro v1 v2 v3 v4 v5 v6 S hs
          rw [q_Mo_hasSameNames_79] at hs
          refine jr_iload ok 6 d_Mo_hasSameNames_79 rfl ?_
          refine jr_iload ok 5 d_Mo_hasSameNames_81 rfl ?_
          refine jr_wicmp_ge 145 ok rfl rfl d_Mo_hasSameNames_83 (by decide) (fun c27 => ?_) (fun c27 => ?_)
          · replace hs := oq_pos c27 hs
            exact jr_lv [0, 1, 2, 3, 4] rfl (B_145 v1 v2 v3 v4 S hs)
          · replace hs := oq_neg c27 hs
            refine jr_iload_n ok 3 d_Mo_hasSameNames_86 rfl rfl ?_
            refine jr_wif_eq 145 ok rfl d_Mo_hasSameNames_87 (by decide) (fun c28 => ?_) (fun c28 => ?_)
            · replace hs := oq_pos c28 hs
              exact jr_lv [0, 1, 2, 3, 4] rfl (B_145 v1 v2 v3 v4 S hs)
            · replace hs := oq_neg c28 hs
              refine jr_aload_n ok 0 d_Mo_hasSameNames_90 rfl rfl ?_
              refine jr_get (v := .ref (g 1)) ok 0 f_Mo_8 rfl rfl d_Mo_hasSameNames_91 ?_
              refine jr_aload_n ok 0 d_Mo_hasSameNames_94 rfl rfl ?_
              refine jr_get (v := .ref (g 11)) ok 0 f_Mo_44 rfl rfl d_Mo_hasSameNames_95 ?_
              refine jr_bipush ok d_Mo_hasSameNames_98 (by decide +kernel) ?_
              refine jr_iload_n ok 1 d_Mo_hasSameNames_100 rfl rfl ?_
              refine jr_imul ok d_Mo_hasSameNames_101 ?_
              refine jr_iload ok 4 d_Mo_hasSameNames_102 rfl ?_
              refine jr_iadd ok d_Mo_hasSameNames_104 ?_
              obtain ⟨hb29, hs⟩ := oq_if hs
              refine jr_iald ok 11 rfl rfl hb29.1 hb29.2 d_Mo_hasSameNames_105 ?_
              refine jr_iload ok 6 d_Mo_hasSameNames_106 rfl ?_
              refine jr_iadd ok d_Mo_hasSameNames_108 ?_
              obtain ⟨hb30, hs⟩ := oq_if hs
              refine jr_bald ok 1 rfl rfl hb30.1 hb30.2 d_Mo_hasSameNames_109 ?_
              refine jr_aload_n ok 0 d_Mo_hasSameNames_110 rfl rfl ?_
              refine jr_get (v := .ref (g 1)) ok 0 f_Mo_8 rfl rfl d_Mo_hasSameNames_111 ?_
              refine jr_aload_n ok 0 d_Mo_hasSameNames_114 rfl rfl ?_
              refine jr_get (v := .ref (g 11)) ok 0 f_Mo_44 rfl rfl d_Mo_hasSameNames_115 ?_
              refine jr_bipush ok d_Mo_hasSameNames_118 (by decide +kernel) ?_
              refine jr_iload_n ok 2 d_Mo_hasSameNames_120 rfl rfl ?_
              refine jr_imul ok d_Mo_hasSameNames_121 ?_
              refine jr_iload ok 4 d_Mo_hasSameNames_122 rfl ?_
              refine jr_iadd ok d_Mo_hasSameNames_124 ?_
              obtain ⟨hb31, hs⟩ := oq_if hs
              refine jr_iald ok 11 rfl rfl hb31.1 hb31.2 d_Mo_hasSameNames_125 ?_
              refine jr_iload ok 6 d_Mo_hasSameNames_126 rfl ?_
              refine jr_iadd ok d_Mo_hasSameNames_128 ?_
              obtain ⟨hb32, hs⟩ := oq_if hs
              refine jr_bald ok 1 rfl rfl hb32.1 hb32.2 d_Mo_hasSameNames_129 ?_
              refine jr_wicmp_ne 137 ok rfl rfl d_Mo_hasSameNames_130 (by decide) (fun c33 => ?_) (fun c33 => ?_)
              · replace hs := oq_neg c33 hs
                refine jr_iconst ok d_Mo_hasSameNames_137 ?_
                exact jr_lv [0, 1, 2, 4, 5, 6] rfl (B_138 v1 v2 v4 v5 v6 0 S hs)
              · replace hs := oq_pos c33 hs
                refine jr_iconst ok d_Mo_hasSameNames_133 ?_
                refine jr_goto 138 ok d_Mo_hasSameNames_134 (by decide) ?_
                exact jr_lv [0, 1, 2, 4, 5, 6] rfl (B_138 v1 v2 v4 v5 v6 1 S hs)
      have B_75 : ∀ (v1 : Int) (v2 : Int) (v4 : Int) (v5 : Int) (t0 : Int) (S : MS), q_Mo_hasSameNames_75 (q_Mo_hasSameNames_24 n24) v1 v2 v4 v5 t0 S = some (r, S9) → jw X 0 0 (moL D g S) [(0, .ref (g 0)), (1, .int (ii v1)), (2, .int (ii v2)), (4, .int (ii v4)), (5, .int (ii v5))] 75 [.int (ii t0)] := by
        intro v1 v2 v4 v5 t0 S hs
        rw [q_Mo_hasSameNames_75] at hs
        refine jr_istore_n [(3, .int (ii t0)), (0, .ref (g 0)), (1, .int (ii v1)), (2, .int (ii v2)), (4, .int (ii v4)), (5, .int (ii v5))] ok d_Mo_hasSameNames_75 rfl (by rw [hN]; decide) rfl ?_
        refine jr_iconst ok d_Mo_hasSameNames_76 ?_
        refine jr_istore [(6, .int (ii 0)), (3, .int (ii t0)), (0, .ref (g 0)), (1, .int (ii v1)), (2, .int (ii v2)), (4, .int (ii v4)), (5, .int (ii v5))] ok d_Mo_hasSameNames_77 (by rw [hN]; decide) rfl ?_
        exact jr_lv [2, 3, 4, 1, 5, 6, 0] rfl (B_79 fU v1 v2 t0 v4 v5 0 S hs)
      intro v1 v2 v3 v4 S hs
      rw [q_Mo_hasSameNames_24] at hs
      refine jr_iload ok 4 d_Mo_hasSameNames_24 rfl ?_
      refine jr_aload_n ok 0 d_Mo_hasSameNames_26 rfl rfl ?_
      refine jr_get (v := .ref (g 10)) ok 0 f_Mo_41 rfl rfl d_Mo_hasSameNames_27 ?_
      refine jr_iload_n ok 1 d_Mo_hasSameNames_30 rfl rfl ?_
      obtain ⟨hb19, hs⟩ := oq_if hs
      refine jr_iald ok 10 rfl rfl hb19.1 hb19.2 d_Mo_hasSameNames_31 ?_
      refine jr_wicmp_ge 151 ok rfl rfl d_Mo_hasSameNames_32 (by decide) (fun c20 => ?_) (fun c20 => ?_)
      · replace hs := oq_pos c20 hs
        refine jr_iload_n ok 3 d_Mo_hasSameNames_151 rfl rfl ?_
        obtain ⟨hb21, hs⟩ := oq_if hs
        exact jm_zret (Lf := moL D g) ok (nz_b hb21) fin hs d_Mo_hasSameNames_152
      · replace hs := oq_neg c20 hs
        refine jr_iload_n ok 3 d_Mo_hasSameNames_35 rfl rfl ?_
        refine jr_wif_eq 151 ok rfl d_Mo_hasSameNames_36 (by decide) (fun c22 => ?_) (fun c22 => ?_)
        · replace hs := oq_pos c22 hs
          refine jr_iload_n ok 3 d_Mo_hasSameNames_151 rfl rfl ?_
          obtain ⟨hb23, hs⟩ := oq_if hs
          exact jm_zret (Lf := moL D g) ok (nz_b hb23) fin hs d_Mo_hasSameNames_152
        · replace hs := oq_neg c22 hs
          refine jr_aload_n ok 0 d_Mo_hasSameNames_39 rfl rfl ?_
          refine jr_get (v := .ref (g 12)) ok 0 f_Mo_47 rfl rfl d_Mo_hasSameNames_40 ?_
          refine jr_bipush ok d_Mo_hasSameNames_43 (by decide +kernel) ?_
          refine jr_iload_n ok 1 d_Mo_hasSameNames_45 rfl rfl ?_
          refine jr_imul ok d_Mo_hasSameNames_46 ?_
          refine jr_iload ok 4 d_Mo_hasSameNames_47 rfl ?_
          refine jr_iadd ok d_Mo_hasSameNames_49 ?_
          obtain ⟨hb24, hs⟩ := oq_if hs
          refine jr_iald ok 12 rfl rfl hb24.1 hb24.2 d_Mo_hasSameNames_50 ?_
          refine jr_istore [(5, .int (ii (S.m_nameLengths ((6 * v1) + v4)))), (0, .ref (g 0)), (1, .int (ii v1)), (2, .int (ii v2)), (3, .int (ii v3)), (4, .int (ii v4))] ok d_Mo_hasSameNames_51 (by rw [hN]; decide) rfl ?_
          refine jr_iload ok 0 d_Mo_hasSameNames_53 rfl ?_
          refine jr_aload_n ok 1 d_Mo_hasSameNames_55 rfl rfl ?_
          refine jr_get (v := .ref (g 12)) ok 0 f_Mo_47 rfl rfl d_Mo_hasSameNames_56 ?_
          refine jr_bipush ok d_Mo_hasSameNames_59 (by decide +kernel) ?_
          refine jr_iload_n ok 3 d_Mo_hasSameNames_61 rfl rfl ?_
          refine jr_imul ok d_Mo_hasSameNames_62 ?_
          refine jr_iload ok 5 d_Mo_hasSameNames_63 rfl ?_
          refine jr_iadd ok d_Mo_hasSameNames_65 ?_
          obtain ⟨hb25, hs⟩ := oq_if hs
          refine jr_iald ok 12 rfl rfl hb25.1 hb25.2 d_Mo_hasSameNames_66 ?_
          refine jr_wicmp_ne 74 ok rfl rfl d_Mo_hasSameNames_67 (by decide) (fun c26 => ?_) (fun c26 => ?_)
          · replace hs := oq_neg c26 hs
            refine jr_iconst ok d_Mo_hasSameNames_74 ?_
            exact jr_lv [1, 2, 3, 5, 0] rfl (B_75 v1 v2 v4 (S.m_nameLengths ((6 * v1) + v4)) 0 S hs)
          · replace hs := oq_pos c26 hs
            refine jr_iconst ok d_Mo_hasSameNames_70 ?_
            refine jr_goto 75 ok d_Mo_hasSameNames_71 (by decide) ?_
            exact jr_lv [1, 2, 3, 5, 0] rfl (B_75 v1 v2 v4 (S.m_nameLengths ((6 * v1) + v4)) 1 S hs)
  have B_20 : ∀ (v1 : Int) (v2 : Int) (t0 : Int) (S : MS), q_Mo_hasSameNames_20 v1 v2 t0 S = some (r, S9) → jw X 0 0 (moL D g S) [(0, .ref (g 0)), (1, .int (ii v1)), (2, .int (ii v2))] 20 [.int (ii t0)] := by
    intro v1 v2 t0 S hs
    rw [q_Mo_hasSameNames_20] at hs
    refine jr_istore_n [(3, .int (ii t0)), (0, .ref (g 0)), (1, .int (ii v1)), (2, .int (ii v2))] ok d_Mo_hasSameNames_20 rfl (by rw [hN]; decide) rfl ?_
    refine jr_iconst ok d_Mo_hasSameNames_21 ?_
    refine jr_istore [(4, .int (ii 0)), (3, .int (ii t0)), (0, .ref (g 0)), (1, .int (ii v1)), (2, .int (ii v2))] ok d_Mo_hasSameNames_22 (by rw [hN]; decide) rfl ?_
    exact jr_lv [2, 3, 4, 1, 0] rfl (B_24 fU v1 v2 t0 0 S hs)
  show jw X 0 0 (moL D g S) [(0, .ref (g 0)), (1, .int (ii v1)), (2, .int (ii v2))] 0 []
  rw [s_Mo_hasSameNames] at hs
  refine jr_aload_n ok 0 d_Mo_hasSameNames_0 rfl rfl ?_
  refine jr_get (v := .ref (g 10)) ok 0 f_Mo_41 rfl rfl d_Mo_hasSameNames_1 ?_
  refine jr_iload_n ok 1 d_Mo_hasSameNames_4 rfl rfl ?_
  obtain ⟨hb34, hs⟩ := oq_if hs
  refine jr_iald ok 10 rfl rfl hb34.1 hb34.2 d_Mo_hasSameNames_5 ?_
  refine jr_aload_n ok 0 d_Mo_hasSameNames_6 rfl rfl ?_
  refine jr_get (v := .ref (g 10)) ok 0 f_Mo_41 rfl rfl d_Mo_hasSameNames_7 ?_
  refine jr_iload_n ok 2 d_Mo_hasSameNames_10 rfl rfl ?_
  obtain ⟨hb35, hs⟩ := oq_if hs
  refine jr_iald ok 10 rfl rfl hb35.1 hb35.2 d_Mo_hasSameNames_11 ?_
  refine jr_wicmp_ne 19 ok rfl rfl d_Mo_hasSameNames_12 (by decide) (fun c36 => ?_) (fun c36 => ?_)
  · replace hs := oq_neg c36 hs
    refine jr_iconst ok d_Mo_hasSameNames_19 ?_
    exact jr_lv [0, 1, 2] rfl (B_20 v1 v2 0 S hs)
  · replace hs := oq_pos c36 hs
    refine jr_iconst ok d_Mo_hasSameNames_15 ?_
    refine jr_goto 20 ok d_Mo_hasSameNames_16 (by decide) ?_
    exact jr_lv [0, 1, 2] rfl (B_20 v1 v2 1 S hs)

def q_Mo_rank_34  : Option (Int) := some 2

def q_Mo_rank_12  : Option (Int) := some 1

def s_Mo_rank (v0 : Int) : Option (Int) := if w32 v0 = 43 then q_Mo_rank_12  else if w32 v0 = 45 then q_Mo_rank_12  else if w32 v0 = 42 then q_Mo_rank_34  else if w32 v0 = 47 then q_Mo_rank_34  else if w32 v0 = 37 then q_Mo_rank_34  else if w32 v0 = 109 then some 3 else some 0
set_option maxHeartbeats 4000000 in
set_option maxRecDepth 100000 in
theorem c_Mo_rank (l : Launch) (D : jd_T) (v0 : Int) (r : Int) (hs : s_Mo_rank v0 = some r) : jc_C l D y_Mo_rank b_Mo_rank 1 (some .int) { frames := 0, cells := 0, slots := 0, locals := 0 } [.int (ii v0)] [] (fun _ : Unit => (.returned (some (.int (ii r))), True, [])) := by
  refine jc_of rfl (Nat.le_of_ble_eq_true rfl) ?_
  intro X hl hR hN ok hnm fin
  subst hl
  have B_34 : q_Mo_rank_34  = some r → jw X 0 0 [] [] 34 [] := by
    intro  hs
    rw [q_Mo_rank_34] at hs
    refine jr_iconst ok d_Mo_rank_34 ?_
    refine jr_goto 49 ok d_Mo_rank_35 (by decide) ?_
    exact jm_irets ok fin hs d_Mo_rank_49
  have B_12 : q_Mo_rank_12  = some r → jw X 0 0 [] [] 12 [] := by
    intro  hs
    rw [q_Mo_rank_12] at hs
    refine jr_iconst ok d_Mo_rank_12 ?_
    refine jr_goto 49 ok d_Mo_rank_13 (by decide) ?_
    exact jm_irets ok fin hs d_Mo_rank_49
  show jw X 0 0 [] [(0, .int (ii v0))] 0 []
  rw [s_Mo_rank] at hs
  refine jr_iload_n ok 0 d_Mo_rank_0 rfl rfl ?_
  refine jr_bipush ok d_Mo_rank_1 (by decide +kernel) ?_
  refine jr_wicmp_eq 12 ok rfl (show w32 43 = 43 by decide) d_Mo_rank_3 (by decide) (fun c7 => ?_) (fun c7 => ?_)
  · replace hs := oq_pos c7 hs
    exact jr_lv [] rfl (B_12  hs)
  · replace hs := oq_neg c7 hs
    refine jr_iload_n ok 0 d_Mo_rank_6 rfl rfl ?_
    refine jr_bipush ok d_Mo_rank_7 (by decide +kernel) ?_
    refine jr_wicmp_ne 16 ok rfl (show w32 45 = 45 by decide) d_Mo_rank_9 (by decide) (fun c8 => ?_) (fun c8 => ?_)
    · replace hs := oq_neg c8 hs
      refine jr_iload_n ok 0 d_Mo_rank_16 rfl rfl ?_
      refine jr_bipush ok d_Mo_rank_17 (by decide +kernel) ?_
      refine jr_wicmp_eq 34 ok rfl (show w32 42 = 42 by decide) d_Mo_rank_19 (by decide) (fun c9 => ?_) (fun c9 => ?_)
      · replace hs := oq_pos c9 hs
        exact jr_lv [] rfl (B_34  hs)
      · replace hs := oq_neg c9 hs
        refine jr_iload_n ok 0 d_Mo_rank_22 rfl rfl ?_
        refine jr_bipush ok d_Mo_rank_23 (by decide +kernel) ?_
        refine jr_wicmp_eq 34 ok rfl (show w32 47 = 47 by decide) d_Mo_rank_25 (by decide) (fun c10 => ?_) (fun c10 => ?_)
        · replace hs := oq_pos c10 hs
          exact jr_lv [] rfl (B_34  hs)
        · replace hs := oq_neg c10 hs
          refine jr_iload_n ok 0 d_Mo_rank_28 rfl rfl ?_
          refine jr_bipush ok d_Mo_rank_29 (by decide +kernel) ?_
          refine jr_wicmp_ne 38 ok rfl (show w32 37 = 37 by decide) d_Mo_rank_31 (by decide) (fun c11 => ?_) (fun c11 => ?_)
          · replace hs := oq_neg c11 hs
            refine jr_iload_n ok 0 d_Mo_rank_38 rfl rfl ?_
            refine jr_bipush ok d_Mo_rank_39 (by decide +kernel) ?_
            refine jr_wicmp_ne 48 ok rfl (show w32 109 = 109 by decide) d_Mo_rank_41 (by decide) (fun c12 => ?_) (fun c12 => ?_)
            · replace hs := oq_neg c12 hs
              refine jr_iconst ok d_Mo_rank_48 ?_
              exact jm_irets ok fin hs d_Mo_rank_49
            · replace hs := oq_pos c12 hs
              refine jr_iconst ok d_Mo_rank_44 ?_
              refine jr_goto 49 ok d_Mo_rank_45 (by decide) ?_
              exact jm_irets ok fin hs d_Mo_rank_49
          · replace hs := oq_pos c11 hs
            exact jr_lv [] rfl (B_34  hs)
    · replace hs := oq_pos c8 hs
      exact jr_lv [] rfl (B_12  hs)

def q_Mo_fault_15 (v1 : Int) (t0 : Int) (S : MS) : Option (Int × MS) := if w32 t0 ≤ 0 then if w32 v1 = 0 then some (S.m_faultCode, MS.w_m_code S t0) else some (S.m_faultPlace, MS.w_m_code S t0) else some (0, MS.w_m_code S t0)

def q_Mo_fault_10 (v1 : Int) (S : MS) : Option (Int × MS) := q_Mo_fault_15 v1 0 S

def s_Mo_fault (S : MS) (v1 : Int) : Option (Int × MS) := if w32 v1 = 0 then q_Mo_fault_10 v1 S else if w32 v1 = 1 then q_Mo_fault_10 v1 S else q_Mo_fault_15 v1 1 S
set_option maxHeartbeats 4000000 in
set_option maxRecDepth 100000 in
theorem c_Mo_fault (l : Launch) (D : jd_T) (g : Nat → Nat) (S : MS) (v1 : Int) (r : Int) (S9 : MS) (hs : s_Mo_fault S v1 = some (r, S9)) : jc_C l D y_Mo_fault b_Mo_fault 2 (some .int) { frames := 0, cells := 0, slots := 0, locals := 0 } [.ref (g 0), .int (ii v1)] (moL D g S) (fun _ : Unit => (.returned (some (.int (ii r))), True, (moL D g S9))) := by
  refine jc_of rfl (Nat.le_of_ble_eq_true rfl) ?_
  intro X hl hR hN ok hnm fin
  subst hl
  have B_15 : ∀ (v1 : Int) (t0 : Int) (S : MS), q_Mo_fault_15 v1 t0 S = some (r, S9) → jw X 0 0 (moL D g S) [(0, .ref (g 0)), (1, .int (ii v1))] 15 [.int (ii t0), .ref (g 0)] := by
    intro v1 t0 S hs
    rw [q_Mo_fault_15] at hs
    refine jr_put (moL D g (MS.w_m_code S t0)) ok 0 f_Mo_101 rfl rfl rfl (Nat.le_of_ble_eq_true rfl) rfl d_Mo_fault_15 ?_
    refine jr_aload_n ok 0 d_Mo_fault_18 rfl rfl ?_
    refine jr_get (v := .int (ii t0)) ok 0 f_Mo_101 rfl rfl d_Mo_fault_19 ?_
    refine jr_wif_le 29 ok rfl d_Mo_fault_22 (by decide) (fun c5 => ?_) (fun c5 => ?_)
    · replace hs := oq_pos c5 hs
      refine jr_iload_n ok 1 d_Mo_fault_29 rfl rfl ?_
      refine jr_wif_ne 40 ok rfl d_Mo_fault_30 (by decide) (fun c6 => ?_) (fun c6 => ?_)
      · replace hs := oq_neg c6 hs
        refine jr_aload_n ok 0 d_Mo_fault_40 rfl rfl ?_
        refine jr_get (v := .int (ii S.m_faultPlace)) ok 0 f_Mo_111 rfl rfl d_Mo_fault_41 ?_
        exact jm_iret (Lf := moL D g) ok fin hs d_Mo_fault_44
      · replace hs := oq_pos c6 hs
        refine jr_aload_n ok 0 d_Mo_fault_33 rfl rfl ?_
        refine jr_get (v := .int (ii S.m_faultCode)) ok 0 f_Mo_108 rfl rfl d_Mo_fault_34 ?_
        refine jr_goto 44 ok d_Mo_fault_37 (by decide) ?_
        exact jm_iret (Lf := moL D g) ok fin hs d_Mo_fault_44
    · replace hs := oq_neg c5 hs
      refine jr_iconst ok d_Mo_fault_25 ?_
      refine jr_goto 44 ok d_Mo_fault_26 (by decide) ?_
      exact jm_iret (Lf := moL D g) ok fin hs d_Mo_fault_44
  have B_10 : ∀ (v1 : Int) (S : MS), q_Mo_fault_10 v1 S = some (r, S9) → jw X 0 0 (moL D g S) [(0, .ref (g 0)), (1, .int (ii v1))] 10 [.ref (g 0)] := by
    intro v1 S hs
    rw [q_Mo_fault_10] at hs
    refine jr_iconst ok d_Mo_fault_10 ?_
    refine jr_goto 15 ok d_Mo_fault_11 (by decide) ?_
    exact jr_lv [0, 1] rfl (B_15 v1 0 S hs)
  show jw X 0 0 (moL D g S) [(0, .ref (g 0)), (1, .int (ii v1))] 0 []
  rw [s_Mo_fault] at hs
  refine jr_aload_n ok 0 d_Mo_fault_0 rfl rfl ?_
  refine jr_iload_n ok 1 d_Mo_fault_1 rfl rfl ?_
  refine jr_wif_eq 10 ok rfl d_Mo_fault_2 (by decide) (fun c7 => ?_) (fun c7 => ?_)
  · replace hs := oq_pos c7 hs
    exact jr_lv [0, 1] rfl (B_10 v1 S hs)
  · replace hs := oq_neg c7 hs
    refine jr_iload_n ok 1 d_Mo_fault_5 rfl rfl ?_
    refine jr_iconst ok d_Mo_fault_6 ?_
    refine jr_wicmp_ne 14 ok rfl (show w32 1 = 1 by decide) d_Mo_fault_7 (by decide) (fun c8 => ?_) (fun c8 => ?_)
    · replace hs := oq_neg c8 hs
      refine jr_iconst ok d_Mo_fault_14 ?_
      exact jr_lv [0, 1] rfl (B_15 v1 1 S hs)
    · replace hs := oq_pos c8 hs
      exact jr_lv [0, 1] rfl (B_10 v1 S hs)

def s_Mo_isSeen (S : MS) (v1 : Int) : Option (Int × MS) := if (0 : Int) ≤ v1 ∧ v1 < (8192 : Int) then if 2 ≤ w32 (S.m_places v1) then some (0, S) else some (1, S) else none
set_option maxHeartbeats 4000000 in
set_option maxRecDepth 100000 in
theorem c_Mo_isSeen (l : Launch) (D : jd_T) (g : Nat → Nat) (S : MS) (v1 : Int) (r : Int) (S9 : MS) (hs : s_Mo_isSeen S v1 = some (r, S9)) : jc_C l D y_Mo_isSeen b_Mo_isSeen 2 (some .boolean) { frames := 0, cells := 0, slots := 0, locals := 0 } [.ref (g 0), .int (ii v1)] (moL D g S) (fun _ : Unit => (.returned (some (.int (ii r))), True, (moL D g S9))) := by
  refine jc_of rfl (Nat.le_of_ble_eq_true rfl) ?_
  intro X hl hR hN ok hnm fin
  subst hl
  show jw X 0 0 (moL D g S) [(0, .ref (g 0)), (1, .int (ii v1))] 0 []
  rw [s_Mo_isSeen] at hs
  refine jr_aload_n ok 0 d_Mo_isSeen_0 rfl rfl ?_
  refine jr_get (v := .ref (g 8)) ok 0 f_Mo_35 rfl rfl d_Mo_isSeen_1 ?_
  refine jr_iload_n ok 1 d_Mo_isSeen_4 rfl rfl ?_
  obtain ⟨hb3, hs⟩ := oq_if hs
  refine jr_bald ok 8 rfl rfl hb3.1 hb3.2 d_Mo_isSeen_5 ?_
  refine jr_iconst ok d_Mo_isSeen_6 ?_
  refine jr_wicmp_ge 14 ok rfl (show w32 2 = 2 by decide) d_Mo_isSeen_7 (by decide) (fun c4 => ?_) (fun c4 => ?_)
  · replace hs := oq_pos c4 hs
    refine jr_iconst ok d_Mo_isSeen_14 ?_
    exact jm_zret (Lf := moL D g) ok (by decide +kernel) fin hs d_Mo_isSeen_15
  · replace hs := oq_neg c4 hs
    refine jr_iconst ok d_Mo_isSeen_10 ?_
    refine jr_goto 15 ok d_Mo_isSeen_11 (by decide) ?_
    exact jm_zret (Lf := moL D g) ok (by decide +kernel) fin hs d_Mo_isSeen_15

def q_Mo_compare_63 (v2 : Int) (v4 : Int) (S : MS) : Option (Int × MS) := some (v2 - v4, S)

def q_Mo_compare_3 : Nat → Int → Int → Int → Int → Int → MS → Option (Int × MS)
  | 0, _, _, _, _, _, _ => none
  | n + 1, v1, v2, v3, v4, v5, S => if w32 v2 ≤ w32 v5 then q_Mo_compare_63 v2 v4 S else if w32 v4 ≤ w32 v5 then q_Mo_compare_63 v2 v4 S else if (0 : Int) ≤ (v1 + v5) ∧ (v1 + v5) < (65536 : Int) then if (0 : Int) ≤ (v3 + v5) ∧ (v3 + v5) < (65536 : Int) then if w32 (S.m_tape (v1 + v5)) = w32 (S.m_tape (v3 + v5)) then (q_Mo_compare_3 n) v1 v2 v3 v4 (v5 + 1) S else if (0 : Int) ≤ (v1 + v5) ∧ (v1 + v5) < (65536 : Int) then if (0 : Int) ≤ (v3 + v5) ∧ (v3 + v5) < (65536 : Int) then some ((S.m_tape (v1 + v5)) - (S.m_tape (v3 + v5)), S) else none else none else none else none

def s_Mo_compare (S : MS) (v1 : Int) (v2 : Int) (v3 : Int) (v4 : Int) : Option (Int × MS) := q_Mo_compare_3 fU v1 v2 v3 v4 0 S
set_option maxHeartbeats 4000000 in
set_option maxRecDepth 100000 in
theorem c_Mo_compare (l : Launch) (D : jd_T) (g : Nat → Nat) (S : MS) (v1 : Int) (v2 : Int) (v3 : Int) (v4 : Int) (r : Int) (S9 : MS) (hs : s_Mo_compare S v1 v2 v3 v4 = some (r, S9)) : jc_C l D y_Mo_compare b_Mo_compare 6 (some .int) { frames := 0, cells := 0, slots := 0, locals := 0 } [.ref (g 0), .int (ii v1), .int (ii v2), .int (ii v3), .int (ii v4)] (moL D g S) (fun _ : Unit => (.returned (some (.int (ii r))), True, (moL D g S9))) := by
  refine jc_of rfl (Nat.le_of_ble_eq_true rfl) ?_
  intro X hl hR hN ok hnm fin
  subst hl
  have B_63 : ∀ (v2 : Int) (v4 : Int) (S : MS), q_Mo_compare_63 v2 v4 S = some (r, S9) → jw X 0 0 (moL D g S) [(2, .int (ii v2)), (4, .int (ii v4))] 63 [] := by
    intro v2 v4 S hs
    rw [q_Mo_compare_63] at hs
    refine jr_iload_n ok 0 d_Mo_compare_63 rfl rfl ?_
    refine jr_iload ok 1 d_Mo_compare_64 rfl ?_
    refine jr_isub ok d_Mo_compare_66 ?_
    exact jm_iret (Lf := moL D g) ok fin hs d_Mo_compare_67
  have B_3 : ∀ (n3 : Nat), ∀ (v1 : Int) (v2 : Int) (v3 : Int) (v4 : Int) (v5 : Int) (S : MS), q_Mo_compare_3 n3 v1 v2 v3 v4 v5 S = some (r, S9) → jw X 0 0 (moL D g S) [(0, .ref (g 0)), (1, .int (ii v1)), (2, .int (ii v2)), (3, .int (ii v3)), (4, .int (ii v4)), (5, .int (ii v5))] 3 [] := by
    intro n3
    induction n3 with
    | zero =>
      intro v1 v2 v3 v4 v5 S hs
      rw [q_Mo_compare_3] at hs; cases hs
    | succ n3 ih3 =>
      intro v1 v2 v3 v4 v5 S hs
      rw [q_Mo_compare_3] at hs
      refine jr_iload ok 5 d_Mo_compare_3 rfl ?_
      refine jr_iload_n ok 2 d_Mo_compare_5 rfl rfl ?_
      refine jr_wicmp_ge 63 ok rfl rfl d_Mo_compare_6 (by decide) (fun c8 => ?_) (fun c8 => ?_)
      · replace hs := oq_pos c8 hs
        exact jr_lv [2, 4] rfl (B_63 v2 v4 S hs)
      · replace hs := oq_neg c8 hs
        refine jr_iload ok 5 d_Mo_compare_9 rfl ?_
        refine jr_iload ok 4 d_Mo_compare_11 rfl ?_
        refine jr_wicmp_ge 63 ok rfl rfl d_Mo_compare_13 (by decide) (fun c9 => ?_) (fun c9 => ?_)
        · replace hs := oq_pos c9 hs
          exact jr_lv [2, 4] rfl (B_63 v2 v4 S hs)
        · replace hs := oq_neg c9 hs
          refine jr_aload_n ok 0 d_Mo_compare_16 rfl rfl ?_
          refine jr_get (v := .ref (g 1)) ok 0 f_Mo_8 rfl rfl d_Mo_compare_17 ?_
          refine jr_iload_n ok 1 d_Mo_compare_20 rfl rfl ?_
          refine jr_iload ok 5 d_Mo_compare_21 rfl ?_
          refine jr_iadd ok d_Mo_compare_23 ?_
          obtain ⟨hb10, hs⟩ := oq_if hs
          refine jr_bald ok 1 rfl rfl hb10.1 hb10.2 d_Mo_compare_24 ?_
          refine jr_aload_n ok 0 d_Mo_compare_25 rfl rfl ?_
          refine jr_get (v := .ref (g 1)) ok 0 f_Mo_8 rfl rfl d_Mo_compare_26 ?_
          refine jr_iload_n ok 3 d_Mo_compare_29 rfl rfl ?_
          refine jr_iload ok 5 d_Mo_compare_30 rfl ?_
          refine jr_iadd ok d_Mo_compare_32 ?_
          obtain ⟨hb11, hs⟩ := oq_if hs
          refine jr_bald ok 1 rfl rfl hb11.1 hb11.2 d_Mo_compare_33 ?_
          refine jr_wicmp_eq 57 ok rfl rfl d_Mo_compare_34 (by decide) (fun c12 => ?_) (fun c12 => ?_)
          · replace hs := oq_pos c12 hs
            refine jr_iinc [(5, .int (ii (v5 + 1))), (0, .ref (g 0)), (1, .int (ii v1)), (2, .int (ii v2)), (3, .int (ii v3)), (4, .int (ii v4))] 5 ok d_Mo_compare_57 rfl (by rw [hN]; decide) rfl ?_
            refine jr_goto 3 ok d_Mo_compare_60 (by decide) ?_
            exact jr_lv [1, 2, 3, 4, 5, 0] rfl (ih3 v1 v2 v3 v4 (v5 + 1) S hs)
          · replace hs := oq_neg c12 hs
            refine jr_aload_n ok 0 d_Mo_compare_37 rfl rfl ?_
            refine jr_get (v := .ref (g 1)) ok 0 f_Mo_8 rfl rfl d_Mo_compare_38 ?_
            refine jr_iload_n ok 1 d_Mo_compare_41 rfl rfl ?_
            refine jr_iload ok 5 d_Mo_compare_42 rfl ?_
            refine jr_iadd ok d_Mo_compare_44 ?_
            obtain ⟨hb13, hs⟩ := oq_if hs
            refine jr_bald ok 1 rfl rfl hb13.1 hb13.2 d_Mo_compare_45 ?_
            refine jr_aload_n ok 0 d_Mo_compare_46 rfl rfl ?_
            refine jr_get (v := .ref (g 1)) ok 0 f_Mo_8 rfl rfl d_Mo_compare_47 ?_
            refine jr_iload_n ok 3 d_Mo_compare_50 rfl rfl ?_
            refine jr_iload ok 5 d_Mo_compare_51 rfl ?_
            refine jr_iadd ok d_Mo_compare_53 ?_
            obtain ⟨hb14, hs⟩ := oq_if hs
            refine jr_bald ok 1 rfl rfl hb14.1 hb14.2 d_Mo_compare_54 ?_
            refine jr_isub ok d_Mo_compare_55 ?_
            exact jm_iret (Lf := moL D g) ok fin hs d_Mo_compare_56
  show jw X 0 0 (moL D g S) [(0, .ref (g 0)), (1, .int (ii v1)), (2, .int (ii v2)), (3, .int (ii v3)), (4, .int (ii v4))] 0 []
  rw [s_Mo_compare] at hs
  refine jr_iconst ok d_Mo_compare_0 ?_
  refine jr_istore [(5, .int (ii 0)), (0, .ref (g 0)), (1, .int (ii v1)), (2, .int (ii v2)), (3, .int (ii v3)), (4, .int (ii v4))] ok d_Mo_compare_1 (by rw [hN]; decide) rfl ?_
  exact jr_lv [1, 2, 3, 4, 5, 0] rfl (B_3 fU v1 v2 v3 v4 0 S hs)

def q_Mo_find_83 (k2 : Int → Int → MS → Option (Int × MS)) (v1 : Int) (v2 : Int) (v3 : Int) (S : MS) : Option (Int × MS) := if w32 v3 = 0 then k2 v1 (v2 + 1) S else some (v2, S)

def q_Mo_find_76 (k2 : Int → Int → MS → Option (Int × MS)) (k29 : Int → Int → Int → Int → MS → Option (Int × MS)) (v1 : Int) (v2 : Int) (v4 : Int) (t0 : Int) (S : MS) : Option (Int × MS) := k29 v1 v2 t0 (v4 + 1) S

def q_Mo_find_29 (k2 : Int → Int → MS → Option (Int × MS)) : Nat → Int → Int → Int → Int → MS → Option (Int × MS)
  | 0, _, _, _, _, _ => none
  | n + 1, v1, v2, v3, v4, S => if w32 v1 ≤ w32 v4 then q_Mo_find_83 k2 v1 v2 v3 S else if w32 v3 = 0 then q_Mo_find_83 k2 v1 v2 v3 S else if (0 : Int) ≤ ((304 * v2) + v4) ∧ ((304 * v2) + v4) < (78128 : Int) then if (0 : Int) ≤ ((304 * S.m_seriesCount) + v4) ∧ ((304 * S.m_seriesCount) + v4) < (78128 : Int) then if w32 (S.m_texts ((304 * v2) + v4)) = w32 (S.m_texts ((304 * S.m_seriesCount) + v4)) then q_Mo_find_76 k2 (q_Mo_find_29 k2 n) v1 v2 v4 1 S else q_Mo_find_76 k2 (q_Mo_find_29 k2 n) v1 v2 v4 0 S else none else none

def q_Mo_find_25 (k2 : Int → Int → MS → Option (Int × MS)) (v1 : Int) (v2 : Int) (t0 : Int) (S : MS) : Option (Int × MS) := q_Mo_find_29 k2 fU v1 v2 t0 0 S

def q_Mo_find_2 : Nat → Int → Int → MS → Option (Int × MS)
  | 0, _, _, _ => none
  | n + 1, v1, v2, S => if w32 S.m_seriesCount ≤ w32 v2 then some (-1, S) else if (0 : Int) ≤ v2 ∧ v2 < (256 : Int) then if w32 (S.m_textLengths v2) = w32 v1 then q_Mo_find_25 (q_Mo_find_2 n) v1 v2 1 S else q_Mo_find_25 (q_Mo_find_2 n) v1 v2 0 S else none

def s_Mo_find (S : MS) (v1 : Int) : Option (Int × MS) := q_Mo_find_2 fU v1 0 S
set_option maxHeartbeats 4000000 in
set_option maxRecDepth 100000 in
theorem c_Mo_find (l : Launch) (D : jd_T) (g : Nat → Nat) (S : MS) (v1 : Int) (r : Int) (S9 : MS) (hs : s_Mo_find S v1 = some (r, S9)) : jc_C l D y_Mo_find b_Mo_find 5 (some .int) { frames := 0, cells := 0, slots := 0, locals := 0 } [.ref (g 0), .int (ii v1)] (moL D g S) (fun _ : Unit => (.returned (some (.int (ii r))), True, (moL D g S9))) := by
  refine jc_of rfl (Nat.le_of_ble_eq_true rfl) ?_
  intro X hl hR hN ok hnm fin
  subst hl
  have B_2 : ∀ (n2 : Nat), ∀ (v1 : Int) (v2 : Int) (S : MS), q_Mo_find_2 n2 v1 v2 S = some (r, S9) → jw X 0 0 (moL D g S) [(0, .ref (g 0)), (1, .int (ii v1)), (2, .int (ii v2))] 2 [] := by
    intro n2
    induction n2 with
    | zero =>
      intro v1 v2 S hs
      rw [q_Mo_find_2] at hs; cases hs
    | succ n2 ih2 =>
      have B_83 : ∀ (v1 : Int) (v2 : Int) (v3 : Int) (S : MS), q_Mo_find_83 (q_Mo_find_2 n2) v1 v2 v3 S = some (r, S9) → jw X 0 0 (moL D g S) [(0, .ref (g 0)), (1, .int (ii v1)), (2, .int (ii v2)), (3, .int (ii v3))] 83 [] := by
        intro v1 v2 v3 S hs
        rw [q_Mo_find_83] at hs
        refine jr_iload_n ok 3 d_Mo_find_83 rfl rfl ?_
        refine jr_wif_eq 89 ok rfl d_Mo_find_84 (by decide) (fun c18 => ?_) (fun c18 => ?_)
        · replace hs := oq_pos c18 hs
          refine jr_iinc [(2, .int (ii (v2 + 1))), (0, .ref (g 0)), (1, .int (ii v1)), (3, .int (ii v3))] 2 ok d_Mo_find_89 rfl (by rw [hN]; decide) rfl ?_
          refine jr_goto 2 ok d_Mo_find_92 (by decide) ?_
          exact jr_lv [1, 2, 0] rfl (ih2 v1 (v2 + 1) S hs)
        · replace hs := oq_neg c18 hs
          refine jr_iload_n ok 2 d_Mo_find_87 rfl rfl ?_
          exact jm_iret (Lf := moL D g) ok fin hs d_Mo_find_88
      have B_29 : ∀ (n29 : Nat), ∀ (v1 : Int) (v2 : Int) (v3 : Int) (v4 : Int) (S : MS), q_Mo_find_29 (q_Mo_find_2 n2) n29 v1 v2 v3 v4 S = some (r, S9) → jw X 0 0 (moL D g S) [(0, .ref (g 0)), (1, .int (ii v1)), (2, .int (ii v2)), (3, .int (ii v3)), (4, .int (ii v4))] 29 [] := by
        intro n29
        induction n29 with
        | zero =>
          intro v1 v2 v3 v4 S hs
          rw [q_Mo_find_29] at hs; cases hs
        | succ n29 ih29 =>
          have B_76 : ∀ (v1 : Int) (v2 : Int) (v4 : Int) (t0 : Int) (S : MS), q_Mo_find_76 (q_Mo_find_2 n2) (q_Mo_find_29 (q_Mo_find_2 n2) n29) v1 v2 v4 t0 S = some (r, S9) → jw X 0 0 (moL D g S) [(0, .ref (g 0)), (1, .int (ii v1)), (2, .int (ii v2)), (4, .int (ii v4))] 76 [.int (ii t0)] := by
            intro v1 v2 v4 t0 S hs
            rw [q_Mo_find_76] at hs
            refine jr_istore_n [(3, .int (ii t0)), (0, .ref (g 0)), (1, .int (ii v1)), (2, .int (ii v2)), (4, .int (ii v4))] ok d_Mo_find_76 rfl (by rw [hN]; decide) rfl ?_
            refine jr_iinc [(4, .int (ii (v4 + 1))), (3, .int (ii t0)), (0, .ref (g 0)), (1, .int (ii v1)), (2, .int (ii v2))] 4 ok d_Mo_find_77 rfl (by rw [hN]; decide) rfl ?_
            refine jr_goto 29 ok d_Mo_find_80 (by decide) ?_
            exact jr_lv [2, 3, 4, 1, 0] rfl (ih29 v1 v2 t0 (v4 + 1) S hs)
          intro v1 v2 v3 v4 S hs
          rw [q_Mo_find_29] at hs
          refine jr_iload ok 4 d_Mo_find_29 rfl ?_
          refine jr_iload_n ok 1 d_Mo_find_31 rfl rfl ?_
          refine jr_wicmp_ge 83 ok rfl rfl d_Mo_find_32 (by decide) (fun c13 => ?_) (fun c13 => ?_)
          · replace hs := oq_pos c13 hs
            exact jr_lv [0, 1, 2, 3] rfl (B_83 v1 v2 v3 S hs)
          · replace hs := oq_neg c13 hs
            refine jr_iload_n ok 3 d_Mo_find_35 rfl rfl ?_
            refine jr_wif_eq 83 ok rfl d_Mo_find_36 (by decide) (fun c14 => ?_) (fun c14 => ?_)
            · replace hs := oq_pos c14 hs
              exact jr_lv [0, 1, 2, 3] rfl (B_83 v1 v2 v3 S hs)
            · replace hs := oq_neg c14 hs
              refine jr_aload_n ok 0 d_Mo_find_39 rfl rfl ?_
              refine jr_get (v := .ref (g 2)) ok 0 f_Mo_15 rfl rfl d_Mo_find_40 ?_
              refine jr_sipush ok d_Mo_find_43 (by decide +kernel) ?_
              refine jr_iload_n ok 2 d_Mo_find_46 rfl rfl ?_
              refine jr_imul ok d_Mo_find_47 ?_
              refine jr_iload ok 4 d_Mo_find_48 rfl ?_
              refine jr_iadd ok d_Mo_find_50 ?_
              obtain ⟨hb15, hs⟩ := oq_if hs
              refine jr_bald ok 2 rfl rfl hb15.1 hb15.2 d_Mo_find_51 ?_
              refine jr_aload_n ok 0 d_Mo_find_52 rfl rfl ?_
              refine jr_get (v := .ref (g 2)) ok 0 f_Mo_15 rfl rfl d_Mo_find_53 ?_
              refine jr_sipush ok d_Mo_find_56 (by decide +kernel) ?_
              refine jr_aload_n ok 0 d_Mo_find_59 rfl rfl ?_
              refine jr_get (v := .int (ii S.m_seriesCount)) ok 0 f_Mo_133 rfl rfl d_Mo_find_60 ?_
              refine jr_imul ok d_Mo_find_63 ?_
              refine jr_iload ok 4 d_Mo_find_64 rfl ?_
              refine jr_iadd ok d_Mo_find_66 ?_
              obtain ⟨hb16, hs⟩ := oq_if hs
              refine jr_bald ok 2 rfl rfl hb16.1 hb16.2 d_Mo_find_67 ?_
              refine jr_wicmp_ne 75 ok rfl rfl d_Mo_find_68 (by decide) (fun c17 => ?_) (fun c17 => ?_)
              · replace hs := oq_neg c17 hs
                refine jr_iconst ok d_Mo_find_75 ?_
                exact jr_lv [0, 1, 2, 4] rfl (B_76 v1 v2 v4 0 S hs)
              · replace hs := oq_pos c17 hs
                refine jr_iconst ok d_Mo_find_71 ?_
                refine jr_goto 76 ok d_Mo_find_72 (by decide) ?_
                exact jr_lv [0, 1, 2, 4] rfl (B_76 v1 v2 v4 1 S hs)
      have B_25 : ∀ (v1 : Int) (v2 : Int) (t0 : Int) (S : MS), q_Mo_find_25 (q_Mo_find_2 n2) v1 v2 t0 S = some (r, S9) → jw X 0 0 (moL D g S) [(0, .ref (g 0)), (1, .int (ii v1)), (2, .int (ii v2))] 25 [.int (ii t0)] := by
        intro v1 v2 t0 S hs
        rw [q_Mo_find_25] at hs
        refine jr_istore_n [(3, .int (ii t0)), (0, .ref (g 0)), (1, .int (ii v1)), (2, .int (ii v2))] ok d_Mo_find_25 rfl (by rw [hN]; decide) rfl ?_
        refine jr_iconst ok d_Mo_find_26 ?_
        refine jr_istore [(4, .int (ii 0)), (3, .int (ii t0)), (0, .ref (g 0)), (1, .int (ii v1)), (2, .int (ii v2))] ok d_Mo_find_27 (by rw [hN]; decide) rfl ?_
        exact jr_lv [2, 3, 4, 1, 0] rfl (B_29 fU v1 v2 t0 0 S hs)
      intro v1 v2 S hs
      rw [q_Mo_find_2] at hs
      refine jr_iload_n ok 2 d_Mo_find_2 rfl rfl ?_
      refine jr_aload_n ok 0 d_Mo_find_3 rfl rfl ?_
      refine jr_get (v := .int (ii S.m_seriesCount)) ok 0 f_Mo_133 rfl rfl d_Mo_find_4 ?_
      refine jr_wicmp_ge 95 ok rfl rfl d_Mo_find_7 (by decide) (fun c10 => ?_) (fun c10 => ?_)
      · replace hs := oq_pos c10 hs
        refine jr_iconst ok d_Mo_find_95 ?_
        exact jm_iret (Lf := moL D g) ok fin hs d_Mo_find_96
      · replace hs := oq_neg c10 hs
        refine jr_aload_n ok 0 d_Mo_find_10 rfl rfl ?_
        refine jr_get (v := .ref (g 3)) ok 0 f_Mo_18 rfl rfl d_Mo_find_11 ?_
        refine jr_iload_n ok 2 d_Mo_find_14 rfl rfl ?_
        obtain ⟨hb11, hs⟩ := oq_if hs
        refine jr_iald ok 3 rfl rfl hb11.1 hb11.2 d_Mo_find_15 ?_
        refine jr_iload_n ok 1 d_Mo_find_16 rfl rfl ?_
        refine jr_wicmp_ne 24 ok rfl rfl d_Mo_find_17 (by decide) (fun c12 => ?_) (fun c12 => ?_)
        · replace hs := oq_neg c12 hs
          refine jr_iconst ok d_Mo_find_24 ?_
          exact jr_lv [0, 1, 2] rfl (B_25 v1 v2 0 S hs)
        · replace hs := oq_pos c12 hs
          refine jr_iconst ok d_Mo_find_20 ?_
          refine jr_goto 25 ok d_Mo_find_21 (by decide) ?_
          exact jr_lv [0, 1, 2] rfl (B_25 v1 v2 1 S hs)
  show jw X 0 0 (moL D g S) [(0, .ref (g 0)), (1, .int (ii v1))] 0 []
  rw [s_Mo_find] at hs
  refine jr_iconst ok d_Mo_find_0 ?_
  refine jr_istore_n [(2, .int (ii 0)), (0, .ref (g 0)), (1, .int (ii v1))] ok d_Mo_find_1 rfl (by rw [hN]; decide) rfl ?_
  exact jr_lv [1, 2, 0] rfl (B_2 fU v1 0 S hs)

def q_Mo_join_150 (t0 : Int64) (t1 : Int) (S : MS) : Option (Unit × MS) := if (0 : Int) ≤ t1 ∧ t1 < (327680 : Int) then some ((), MS.w_m_cells S (aU S.m_cells t1 t0)) else none

def q_Mo_join_48 (v1 : Int) (v2 : Int) (v3 : Int) (v4 : Int) (t0 : Int) (S : MS) : Option (Unit × MS) := if (0 : Int) ≤ v3 ∧ v3 < (327680 : Int) then if (0 : Int) ≤ v4 ∧ v4 < (327680 : Int) then if (0 : Int) ≤ v2 ∧ v2 < (327680 : Int) then if t0 = 0 ∨ t0 = 1 then if w32 t0 = 0 then q_Mo_join_150 (ll 0) v2 (MS.w_m_isCell S (aU S.m_isCell v2 t0)) else if w32 v1 = 43 then q_Mo_join_150 ((S.m_cells v3) + (S.m_cells v4)) v2 (MS.w_m_isCell S (aU S.m_isCell v2 t0)) else if w32 v1 = 45 then q_Mo_join_150 ((S.m_cells v3) - (S.m_cells v4)) v2 (MS.w_m_isCell S (aU S.m_isCell v2 t0)) else if w32 v1 = 42 then q_Mo_join_150 ((S.m_cells v3) * (S.m_cells v4)) v2 (MS.w_m_isCell S (aU S.m_isCell v2 t0)) else if w32 v1 = 47 then if ¬ (S.m_cells v4) = 0 then q_Mo_join_150 ((S.m_cells v3) / (S.m_cells v4)) v2 (MS.w_m_isCell S (aU S.m_isCell v2 t0)) else none else if ¬ (S.m_cells v4) = 0 then q_Mo_join_150 ((S.m_cells v3) - (S.m_cells v3) / (S.m_cells v4) * (S.m_cells v4)) v2 (MS.w_m_isCell S (aU S.m_isCell v2 t0)) else none else none else none else none else none

def q_Mo_join_47 (v1 : Int) (v2 : Int) (v3 : Int) (v4 : Int) (S : MS) : Option (Unit × MS) := q_Mo_join_48 v1 v2 v3 v4 0 S

def q_Mo_join_43 (v1 : Int) (v2 : Int) (v3 : Int) (v4 : Int) (S : MS) : Option (Unit × MS) := q_Mo_join_48 v1 v2 v3 v4 1 S

def q_Mo_join_31 (v1 : Int) (v2 : Int) (v3 : Int) (v4 : Int) (S : MS) : Option (Unit × MS) := if (0 : Int) ≤ v4 ∧ v4 < (327680 : Int) then if (S.m_cells v4).toInt = 0 then q_Mo_join_47 v1 v2 v3 v4 S else q_Mo_join_43 v1 v2 v3 v4 S else none

def s_Mo_join (S : MS) (v1 : Int) (v2 : Int) (v3 : Int) (v4 : Int) : Option (Unit × MS) := if (0 : Int) ≤ v3 ∧ v3 < (327680 : Int) then if w32 (S.m_isCell v3) = 0 then q_Mo_join_47 v1 v2 v3 v4 S else if (0 : Int) ≤ v4 ∧ v4 < (327680 : Int) then if w32 (S.m_isCell v4) = 0 then q_Mo_join_47 v1 v2 v3 v4 S else if w32 v1 = 47 then q_Mo_join_31 v1 v2 v3 v4 S else if w32 v1 = 37 then q_Mo_join_31 v1 v2 v3 v4 S else q_Mo_join_43 v1 v2 v3 v4 S else none else none
set_option maxHeartbeats 4000000 in
set_option maxRecDepth 100000 in
theorem c_Mo_join (l : Launch) (D : jd_T) (g : Nat → Nat) (S : MS) (v1 : Int) (v2 : Int) (v3 : Int) (v4 : Int) (r : Unit) (S9 : MS) (hs : s_Mo_join S v1 v2 v3 v4 = some (r, S9)) : jc_C l D y_Mo_join b_Mo_join 10 none { frames := 0, cells := 0, slots := 0, locals := 0 } [.ref (g 0), .int (ii v1), .int (ii v2), .int (ii v3), .int (ii v4)] (moL D g S) (fun _ : Unit => (.returned (none), True, (moL D g S9))) := by
  refine jc_of rfl (Nat.le_of_ble_eq_true rfl) ?_
  intro X hl hR hN ok hnm fin
  subst hl
  have B_150 : ∀ (t0 : Int64) (t1 : Int) (S : MS), q_Mo_join_150 t0 t1 S = some (r, S9) → jw X 0 0 (moL D g S) [] 150 [.long t0, .int (ii t1), .ref (g 15)] := by
    intro t0 t1 S hs
    rw [q_Mo_join_150] at hs
    obtain ⟨hb34, hs⟩ := oq_if hs
    refine jr_last (moL D g (MS.w_m_cells S (aU S.m_cells t1 t0))) ok 15 rfl rfl hb34.1 hb34.2  rfl d_Mo_join_150 ?_
    exact jm_vret (Lf := moL D g) ok fin hs d_Mo_join_151
  have B_48 : ∀ (v1 : Int) (v2 : Int) (v3 : Int) (v4 : Int) (t0 : Int) (S : MS), q_Mo_join_48 v1 v2 v3 v4 t0 S = some (r, S9) → jw X 0 0 (moL D g S) [(0, .ref (g 0)), (1, .int (ii v1)), (2, .int (ii v2)), (3, .int (ii v3)), (4, .int (ii v4))] 48 [.int (ii t0)] := by
    intro v1 v2 v3 v4 t0 S hs
    rw [q_Mo_join_48] at hs
    refine jr_istore [(5, .int (ii t0)), (0, .ref (g 0)), (1, .int (ii v1)), (2, .int (ii v2)), (3, .int (ii v3)), (4, .int (ii v4))] ok d_Mo_join_48 (by rw [hN]; decide) rfl ?_
    refine jr_aload_n ok 1 d_Mo_join_50 rfl rfl ?_
    refine jr_get (v := .ref (g 15)) ok 0 f_Mo_57 rfl rfl d_Mo_join_51 ?_
    refine jr_iload_n ok 4 d_Mo_join_54 rfl rfl ?_
    obtain ⟨hb23, hs⟩ := oq_if hs
    refine jr_lald ok 15 rfl rfl hb23.1 hb23.2 d_Mo_join_55 ?_
    refine jr_lstore [(6, .long (S.m_cells v3)), (5, .int (ii t0)), (0, .ref (g 0)), (1, .int (ii v1)), (2, .int (ii v2)), (3, .int (ii v3)), (4, .int (ii v4))] ok d_Mo_join_56 (by rw [hN]; decide) rfl ?_
    refine jr_aload_n ok 2 d_Mo_join_58 rfl rfl ?_
    refine jr_get (v := .ref (g 15)) ok 0 f_Mo_57 rfl rfl d_Mo_join_59 ?_
    refine jr_iload ok 6 d_Mo_join_62 rfl ?_
    obtain ⟨hb24, hs⟩ := oq_if hs
    refine jr_lald ok 15 rfl rfl hb24.1 hb24.2 d_Mo_join_64 ?_
    refine jr_lstore [(8, .long (S.m_cells v4)), (6, .long (S.m_cells v3)), (5, .int (ii t0)), (0, .ref (g 0)), (1, .int (ii v1)), (2, .int (ii v2)), (3, .int (ii v3)), (4, .int (ii v4))] ok d_Mo_join_65 (by rw [hN]; decide) rfl ?_
    refine jr_aload_n ok 3 d_Mo_join_67 rfl rfl ?_
    refine jr_get (v := .ref (g 16)) ok 0 f_Mo_60 rfl rfl d_Mo_join_68 ?_
    refine jr_iload_n ok 5 d_Mo_join_71 rfl rfl ?_
    refine jr_iload ok 2 d_Mo_join_72 rfl ?_
    obtain ⟨hb25, hs⟩ := oq_if hs
    obtain ⟨hb26, hs⟩ := oq_if hs
    refine jr_zast (moL D g (MS.w_m_isCell S (aU S.m_isCell v2 t0))) ok 16 rfl rfl hb25.1 hb25.2 (nz_b hb26) rfl d_Mo_join_74 ?_
    refine jr_aload_n ok 3 d_Mo_join_75 rfl rfl ?_
    refine jr_get (v := .ref (g 15)) ok 0 f_Mo_57 rfl rfl d_Mo_join_76 ?_
    refine jr_iload_n ok 5 d_Mo_join_79 rfl rfl ?_
    refine jr_iload ok 2 d_Mo_join_80 rfl ?_
    refine jr_wif_ne 89 ok rfl d_Mo_join_82 (by decide) (fun c27 => ?_) (fun c27 => ?_)
    · replace hs := oq_neg c27 hs
      refine jr_iload_n ok 4 d_Mo_join_89 rfl rfl ?_
      refine jr_bipush ok d_Mo_join_90 (by decide +kernel) ?_
      refine jr_wicmp_ne 103 ok rfl (show w32 43 = 43 by decide) d_Mo_join_92 (by decide) (fun c28 => ?_) (fun c28 => ?_)
      · replace hs := oq_neg c28 hs
        refine jr_iload_n ok 4 d_Mo_join_103 rfl rfl ?_
        refine jr_bipush ok d_Mo_join_104 (by decide +kernel) ?_
        refine jr_wicmp_ne 117 ok rfl (show w32 45 = 45 by decide) d_Mo_join_106 (by decide) (fun c29 => ?_) (fun c29 => ?_)
        · replace hs := oq_neg c29 hs
          refine jr_iload_n ok 4 d_Mo_join_117 rfl rfl ?_
          refine jr_bipush ok d_Mo_join_118 (by decide +kernel) ?_
          refine jr_wicmp_ne 131 ok rfl (show w32 42 = 42 by decide) d_Mo_join_120 (by decide) (fun c30 => ?_) (fun c30 => ?_)
          · replace hs := oq_neg c30 hs
            refine jr_iload_n ok 4 d_Mo_join_131 rfl rfl ?_
            refine jr_bipush ok d_Mo_join_132 (by decide +kernel) ?_
            refine jr_wicmp_ne 145 ok rfl (show w32 47 = 47 by decide) d_Mo_join_134 (by decide) (fun c31 => ?_) (fun c31 => ?_)
            · replace hs := oq_neg c31 hs
              refine jr_lload ok 1 d_Mo_join_145 rfl ?_
              refine jr_lload ok 0 d_Mo_join_147 rfl ?_
              obtain ⟨hb32, hs⟩ := oq_if hs
              refine jr_lremx ok d_Mo_join_149 hb32 ?_
              exact jr_lv [] rfl (B_150 ((S.m_cells v3) - (S.m_cells v3) / (S.m_cells v4) * (S.m_cells v4)) v2 (MS.w_m_isCell S (aU S.m_isCell v2 t0)) hs)
            · replace hs := oq_pos c31 hs
              refine jr_lload ok 1 d_Mo_join_137 rfl ?_
              refine jr_lload ok 0 d_Mo_join_139 rfl ?_
              obtain ⟨hb33, hs⟩ := oq_if hs
              refine jr_ldivx ok d_Mo_join_141 hb33 ?_
              refine jr_goto 150 ok d_Mo_join_142 (by decide) ?_
              exact jr_lv [] rfl (B_150 ((S.m_cells v3) / (S.m_cells v4)) v2 (MS.w_m_isCell S (aU S.m_isCell v2 t0)) hs)
          · replace hs := oq_pos c30 hs
            refine jr_lload ok 1 d_Mo_join_123 rfl ?_
            refine jr_lload ok 0 d_Mo_join_125 rfl ?_
            refine jr_lmulx ok d_Mo_join_127 ?_
            refine jr_goto 150 ok d_Mo_join_128 (by decide) ?_
            exact jr_lv [] rfl (B_150 ((S.m_cells v3) * (S.m_cells v4)) v2 (MS.w_m_isCell S (aU S.m_isCell v2 t0)) hs)
        · replace hs := oq_pos c29 hs
          refine jr_lload ok 1 d_Mo_join_109 rfl ?_
          refine jr_lload ok 0 d_Mo_join_111 rfl ?_
          refine jr_lsubx ok d_Mo_join_113 ?_
          refine jr_goto 150 ok d_Mo_join_114 (by decide) ?_
          exact jr_lv [] rfl (B_150 ((S.m_cells v3) - (S.m_cells v4)) v2 (MS.w_m_isCell S (aU S.m_isCell v2 t0)) hs)
      · replace hs := oq_pos c28 hs
        refine jr_lload ok 1 d_Mo_join_95 rfl ?_
        refine jr_lload ok 0 d_Mo_join_97 rfl ?_
        refine jr_laddx ok d_Mo_join_99 ?_
        refine jr_goto 150 ok d_Mo_join_100 (by decide) ?_
        exact jr_lv [] rfl (B_150 ((S.m_cells v3) + (S.m_cells v4)) v2 (MS.w_m_isCell S (aU S.m_isCell v2 t0)) hs)
    · replace hs := oq_pos c27 hs
      refine jr_lconst (z := 0) ok d_Mo_join_85 (by decide +kernel) ?_
      refine jr_goto 150 ok d_Mo_join_86 (by decide) ?_
      exact jr_lv [] rfl (B_150 (ll 0) v2 (MS.w_m_isCell S (aU S.m_isCell v2 t0)) hs)
  have B_47 : ∀ (v1 : Int) (v2 : Int) (v3 : Int) (v4 : Int) (S : MS), q_Mo_join_47 v1 v2 v3 v4 S = some (r, S9) → jw X 0 0 (moL D g S) [(0, .ref (g 0)), (1, .int (ii v1)), (2, .int (ii v2)), (3, .int (ii v3)), (4, .int (ii v4))] 47 [] := by
    intro v1 v2 v3 v4 S hs
    rw [q_Mo_join_47] at hs
    refine jr_iconst ok d_Mo_join_47 ?_
    exact jr_lv [0, 1, 2, 3, 4] rfl (B_48 v1 v2 v3 v4 0 S hs)
  have B_43 : ∀ (v1 : Int) (v2 : Int) (v3 : Int) (v4 : Int) (S : MS), q_Mo_join_43 v1 v2 v3 v4 S = some (r, S9) → jw X 0 0 (moL D g S) [(0, .ref (g 0)), (1, .int (ii v1)), (2, .int (ii v2)), (3, .int (ii v3)), (4, .int (ii v4))] 43 [] := by
    intro v1 v2 v3 v4 S hs
    rw [q_Mo_join_43] at hs
    refine jr_iconst ok d_Mo_join_43 ?_
    refine jr_goto 48 ok d_Mo_join_44 (by decide) ?_
    exact jr_lv [0, 1, 2, 3, 4] rfl (B_48 v1 v2 v3 v4 1 S hs)
  have B_31 : ∀ (v1 : Int) (v2 : Int) (v3 : Int) (v4 : Int) (S : MS), q_Mo_join_31 v1 v2 v3 v4 S = some (r, S9) → jw X 0 0 (moL D g S) [(0, .ref (g 0)), (1, .int (ii v1)), (2, .int (ii v2)), (3, .int (ii v3)), (4, .int (ii v4))] 31 [] := by
    intro v1 v2 v3 v4 S hs
    rw [q_Mo_join_31] at hs
    refine jr_aload_n ok 0 d_Mo_join_31 rfl rfl ?_
    refine jr_get (v := .ref (g 15)) ok 0 f_Mo_57 rfl rfl d_Mo_join_32 ?_
    refine jr_iload ok 4 d_Mo_join_35 rfl ?_
    obtain ⟨hb21, hs⟩ := oq_if hs
    refine jr_lald ok 15 rfl rfl hb21.1 hb21.2 d_Mo_join_37 ?_
    refine jr_lconst (z := 0) ok d_Mo_join_38 (by decide +kernel) ?_
    refine jr_lif_eq 47 ok rfl (ll_toInt ⟨by decide, by decide⟩) d_Mo_join_39 d_Mo_join_40 (by decide) (fun c22 => ?_) (fun c22 => ?_)
    · replace hs := oq_pos c22 hs
      exact jr_lv [0, 1, 2, 3, 4] rfl (B_47 v1 v2 v3 v4 S hs)
    · replace hs := oq_neg c22 hs
      exact jr_lv [0, 1, 2, 3, 4] rfl (B_43 v1 v2 v3 v4 S hs)
  show jw X 0 0 (moL D g S) [(0, .ref (g 0)), (1, .int (ii v1)), (2, .int (ii v2)), (3, .int (ii v3)), (4, .int (ii v4))] 0 []
  rw [s_Mo_join] at hs
  refine jr_aload_n ok 0 d_Mo_join_0 rfl rfl ?_
  refine jr_get (v := .ref (g 16)) ok 0 f_Mo_60 rfl rfl d_Mo_join_1 ?_
  refine jr_iload_n ok 3 d_Mo_join_4 rfl rfl ?_
  obtain ⟨hb35, hs⟩ := oq_if hs
  refine jr_zald ok 16 rfl rfl hb35.1 hb35.2 d_Mo_join_5 ?_
  refine jr_wif_eq 47 ok rfl d_Mo_join_6 (by decide) (fun c36 => ?_) (fun c36 => ?_)
  · replace hs := oq_pos c36 hs
    exact jr_lv [0, 1, 2, 3, 4] rfl (B_47 v1 v2 v3 v4 S hs)
  · replace hs := oq_neg c36 hs
    refine jr_aload_n ok 0 d_Mo_join_9 rfl rfl ?_
    refine jr_get (v := .ref (g 16)) ok 0 f_Mo_60 rfl rfl d_Mo_join_10 ?_
    refine jr_iload ok 4 d_Mo_join_13 rfl ?_
    obtain ⟨hb37, hs⟩ := oq_if hs
    refine jr_zald ok 16 rfl rfl hb37.1 hb37.2 d_Mo_join_15 ?_
    refine jr_wif_eq 47 ok rfl d_Mo_join_16 (by decide) (fun c38 => ?_) (fun c38 => ?_)
    · replace hs := oq_pos c38 hs
      exact jr_lv [0, 1, 2, 3, 4] rfl (B_47 v1 v2 v3 v4 S hs)
    · replace hs := oq_neg c38 hs
      refine jr_iload_n ok 1 d_Mo_join_19 rfl rfl ?_
      refine jr_bipush ok d_Mo_join_20 (by decide +kernel) ?_
      refine jr_wicmp_eq 31 ok rfl (show w32 47 = 47 by decide) d_Mo_join_22 (by decide) (fun c39 => ?_) (fun c39 => ?_)
      · replace hs := oq_pos c39 hs
        exact jr_lv [0, 1, 2, 3, 4] rfl (B_31 v1 v2 v3 v4 S hs)
      · replace hs := oq_neg c39 hs
        refine jr_iload_n ok 1 d_Mo_join_25 rfl rfl ?_
        refine jr_bipush ok d_Mo_join_26 (by decide +kernel) ?_
        refine jr_wicmp_ne 43 ok rfl (show w32 37 = 37 by decide) d_Mo_join_28 (by decide) (fun c40 => ?_) (fun c40 => ?_)
        · replace hs := oq_neg c40 hs
          exact jr_lv [0, 1, 2, 3, 4] rfl (B_43 v1 v2 v3 v4 S hs)
        · replace hs := oq_pos c40 hs
          exact jr_lv [0, 1, 2, 3, 4] rfl (B_31 v1 v2 v3 v4 S hs)

def q_Mo_isOpen_32 (k4 : Int → Int → MS → Option (Int × MS)) (v2 : Int) (t0 : Int) (S : MS) : Option (Int × MS) := k4 t0 (v2 + 1) S

def q_Mo_isOpen_27 (k4 : Int → Int → MS → Option (Int × MS)) (v2 : Int) (S : MS) : Option (Int × MS) := q_Mo_isOpen_32 k4 v2 1 S

def q_Mo_isOpen_4 : Nat → Int → Int → MS → Option (Int × MS)
  | 0, _, _, _ => none
  | n + 1, v1, v2, S => if w32 S.m_signCount ≤ w32 v2 then if v1 = 0 ∨ v1 = 1 then some (v1, S) else none else if w32 v1 = 0 then if (0 : Int) ≤ v2 ∧ v2 < (32 : Int) then if w32 (S.m_signs v2) = 40 then q_Mo_isOpen_27 (q_Mo_isOpen_4 n) v2 S else q_Mo_isOpen_32 (q_Mo_isOpen_4 n) v2 0 S else none else q_Mo_isOpen_27 (q_Mo_isOpen_4 n) v2 S

def s_Mo_isOpen (S : MS)  : Option (Int × MS) := q_Mo_isOpen_4 fU 0 0 S
set_option maxHeartbeats 4000000 in
set_option maxRecDepth 100000 in
theorem c_Mo_isOpen (l : Launch) (D : jd_T) (g : Nat → Nat) (S : MS)  (r : Int) (S9 : MS) (hs : s_Mo_isOpen S  = some (r, S9)) : jc_C l D y_Mo_isOpen b_Mo_isOpen 3 (some .boolean) { frames := 0, cells := 0, slots := 0, locals := 0 } [.ref (g 0)] (moL D g S) (fun _ : Unit => (.returned (some (.int (ii r))), True, (moL D g S9))) := by
  refine jc_of rfl (Nat.le_of_ble_eq_true rfl) ?_
  intro X hl hR hN ok hnm fin
  subst hl
  have B_4 : ∀ (n4 : Nat), ∀ (v1 : Int) (v2 : Int) (S : MS), q_Mo_isOpen_4 n4 v1 v2 S = some (r, S9) → jw X 0 0 (moL D g S) [(0, .ref (g 0)), (1, .int (ii v1)), (2, .int (ii v2))] 4 [] := by
    intro n4
    induction n4 with
    | zero =>
      intro v1 v2 S hs
      rw [q_Mo_isOpen_4] at hs; cases hs
    | succ n4 ih4 =>
      have B_32 : ∀ (v2 : Int) (t0 : Int) (S : MS), q_Mo_isOpen_32 (q_Mo_isOpen_4 n4) v2 t0 S = some (r, S9) → jw X 0 0 (moL D g S) [(0, .ref (g 0)), (2, .int (ii v2))] 32 [.int (ii t0)] := by
        intro v2 t0 S hs
        rw [q_Mo_isOpen_32] at hs
        refine jr_istore_n [(1, .int (ii t0)), (0, .ref (g 0)), (2, .int (ii v2))] ok d_Mo_isOpen_32 rfl (by rw [hN]; decide) rfl ?_
        refine jr_iinc [(2, .int (ii (v2 + 1))), (1, .int (ii t0)), (0, .ref (g 0))] 2 ok d_Mo_isOpen_33 rfl (by rw [hN]; decide) rfl ?_
        refine jr_goto 4 ok d_Mo_isOpen_36 (by decide) ?_
        exact jr_lv [2, 1, 0] rfl (ih4 t0 (v2 + 1) S hs)
      have B_27 : ∀ (v2 : Int) (S : MS), q_Mo_isOpen_27 (q_Mo_isOpen_4 n4) v2 S = some (r, S9) → jw X 0 0 (moL D g S) [(0, .ref (g 0)), (2, .int (ii v2))] 27 [] := by
        intro v2 S hs
        rw [q_Mo_isOpen_27] at hs
        refine jr_iconst ok d_Mo_isOpen_27 ?_
        refine jr_goto 32 ok d_Mo_isOpen_28 (by decide) ?_
        exact jr_lv [0, 1] rfl (B_32 v2 1 S hs)
      intro v1 v2 S hs
      rw [q_Mo_isOpen_4] at hs
      refine jr_iload_n ok 2 d_Mo_isOpen_4 rfl rfl ?_
      refine jr_aload_n ok 0 d_Mo_isOpen_5 rfl rfl ?_
      refine jr_get (v := .int (ii S.m_signCount)) ok 0 f_Mo_294 rfl rfl d_Mo_isOpen_6 ?_
      refine jr_wicmp_ge 39 ok rfl rfl d_Mo_isOpen_9 (by decide) (fun c6 => ?_) (fun c6 => ?_)
      · replace hs := oq_pos c6 hs
        refine jr_iload_n ok 1 d_Mo_isOpen_39 rfl rfl ?_
        obtain ⟨hb7, hs⟩ := oq_if hs
        exact jm_zret (Lf := moL D g) ok (nz_b hb7) fin hs d_Mo_isOpen_40
      · replace hs := oq_neg c6 hs
        refine jr_iload_n ok 1 d_Mo_isOpen_12 rfl rfl ?_
        refine jr_wif_ne 27 ok rfl d_Mo_isOpen_13 (by decide) (fun c8 => ?_) (fun c8 => ?_)
        · replace hs := oq_neg c8 hs
          exact jr_lv [0, 2] rfl (B_27 v2 S hs)
        · replace hs := oq_pos c8 hs
          refine jr_aload_n ok 0 d_Mo_isOpen_16 rfl rfl ?_
          refine jr_get (v := .ref (g 23)) ok 0 f_Mo_82 rfl rfl d_Mo_isOpen_17 ?_
          refine jr_iload_n ok 2 d_Mo_isOpen_20 rfl rfl ?_
          obtain ⟨hb9, hs⟩ := oq_if hs
          refine jr_iald ok 23 rfl rfl hb9.1 hb9.2 d_Mo_isOpen_21 ?_
          refine jr_bipush ok d_Mo_isOpen_22 (by decide +kernel) ?_
          refine jr_wicmp_ne 31 ok rfl (show w32 40 = 40 by decide) d_Mo_isOpen_24 (by decide) (fun c10 => ?_) (fun c10 => ?_)
          · replace hs := oq_neg c10 hs
            refine jr_iconst ok d_Mo_isOpen_31 ?_
            exact jr_lv [0, 2] rfl (B_32 v2 0 S hs)
          · replace hs := oq_pos c10 hs
            exact jr_lv [0, 2] rfl (B_27 v2 S hs)
  show jw X 0 0 (moL D g S) [(0, .ref (g 0))] 0 []
  rw [s_Mo_isOpen] at hs
  refine jr_iconst ok d_Mo_isOpen_0 ?_
  refine jr_istore_n [(1, .int (ii 0)), (0, .ref (g 0))] ok d_Mo_isOpen_1 rfl (by rw [hN]; decide) rfl ?_
  refine jr_iconst ok d_Mo_isOpen_2 ?_
  refine jr_istore_n [(2, .int (ii 0)), (1, .int (ii 0)), (0, .ref (g 0))] ok d_Mo_isOpen_3 rfl (by rw [hN]; decide) rfl ?_
  exact jr_lv [2, 1, 0] rfl (B_4 fU 0 0 S hs)

def s_Mo_isRow (S : MS) (v1 : Int) : Option (Int × MS) := if w32 S.m_isTable = 0 then some (0, S) else if w32 v1 < 0 then some (0, S) else if w32 S.m_rows ≤ w32 v1 then some (0, S) else some (1, S)
set_option maxHeartbeats 4000000 in
set_option maxRecDepth 100000 in
theorem c_Mo_isRow (l : Launch) (D : jd_T) (g : Nat → Nat) (S : MS) (v1 : Int) (r : Int) (S9 : MS) (hs : s_Mo_isRow S v1 = some (r, S9)) : jc_C l D y_Mo_isRow b_Mo_isRow 2 (some .boolean) { frames := 0, cells := 0, slots := 0, locals := 0 } [.ref (g 0), .int (ii v1)] (moL D g S) (fun _ : Unit => (.returned (some (.int (ii r))), True, (moL D g S9))) := by
  refine jc_of rfl (Nat.le_of_ble_eq_true rfl) ?_
  intro X hl hR hN ok hnm fin
  subst hl
  show jw X 0 0 (moL D g S) [(0, .ref (g 0)), (1, .int (ii v1))] 0 []
  rw [s_Mo_isRow] at hs
  refine jr_aload_n ok 0 d_Mo_isRow_0 rfl rfl ?_
  refine jr_get (v := .int (ii S.m_isTable)) ok 0 f_Mo_352 rfl rfl d_Mo_isRow_1 ?_
  refine jr_wif_eq 23 ok rfl d_Mo_isRow_4 (by decide) (fun c4 => ?_) (fun c4 => ?_)
  · replace hs := oq_pos c4 hs
    refine jr_iconst ok d_Mo_isRow_23 ?_
    exact jm_zret (Lf := moL D g) ok (by decide +kernel) fin hs d_Mo_isRow_24
  · replace hs := oq_neg c4 hs
    refine jr_iload_n ok 1 d_Mo_isRow_7 rfl rfl ?_
    refine jr_wif_lt 23 ok rfl d_Mo_isRow_8 (by decide) (fun c5 => ?_) (fun c5 => ?_)
    · replace hs := oq_pos c5 hs
      refine jr_iconst ok d_Mo_isRow_23 ?_
      exact jm_zret (Lf := moL D g) ok (by decide +kernel) fin hs d_Mo_isRow_24
    · replace hs := oq_neg c5 hs
      refine jr_iload_n ok 1 d_Mo_isRow_11 rfl rfl ?_
      refine jr_aload_n ok 0 d_Mo_isRow_12 rfl rfl ?_
      refine jr_get (v := .int (ii S.m_rows)) ok 0 f_Mo_358 rfl rfl d_Mo_isRow_13 ?_
      refine jr_wicmp_ge 23 ok rfl rfl d_Mo_isRow_16 (by decide) (fun c6 => ?_) (fun c6 => ?_)
      · replace hs := oq_pos c6 hs
        refine jr_iconst ok d_Mo_isRow_23 ?_
        exact jm_zret (Lf := moL D g) ok (by decide +kernel) fin hs d_Mo_isRow_24
      · replace hs := oq_neg c6 hs
        refine jr_iconst ok d_Mo_isRow_19 ?_
        refine jr_goto 24 ok d_Mo_isRow_20 (by decide) ?_
        exact jm_zret (Lf := moL D g) ok (by decide +kernel) fin hs d_Mo_isRow_24

def q_Mo_feed_86 (k33 : Int → Int → Int → Int → Int → Int → MS → Option (Int × MS)) (v1 : Int) (v2 : Int) (v3 : Int) (v4 : Int) (v5 : Int) (v6 : Int) (t0 : Int) (S : MS) : Option (Int × MS) := if (0 : Int) ≤ S.m_length ∧ S.m_length < (65536 : Int) then k33 v1 v2 v3 v4 v5 (v6 + 1) (MS.w_m_length (MS.w_m_tape S (aU S.m_tape S.m_length (sb (gShr t0 (24 - (8 * (gRem v6 4))))))) (S.m_length + 1)) else none

def q_Mo_feed_33 : Nat → Int → Int → Int → Int → Int → Int → MS → Option (Int × MS)
  | 0, _, _, _, _, _, _, _ => none
  | n + 1, v1, v2, v3, v4, v5, v6, S => if 20 ≤ w32 v6 then some (S.m_length, S) else if 4 ≤ w32 v6 then if 8 ≤ w32 v6 then if 12 ≤ w32 v6 then if 16 ≤ w32 v6 then q_Mo_feed_86 (q_Mo_feed_33 n) v1 v2 v3 v4 v5 v6 v5 S else q_Mo_feed_86 (q_Mo_feed_33 n) v1 v2 v3 v4 v5 v6 v4 S else q_Mo_feed_86 (q_Mo_feed_33 n) v1 v2 v3 v4 v5 v6 v3 S else q_Mo_feed_86 (q_Mo_feed_33 n) v1 v2 v3 v4 v5 v6 v2 S else q_Mo_feed_86 (q_Mo_feed_33 n) v1 v2 v3 v4 v5 v6 v1 S

def q_Mo_feed_18 (v1 : Int) (v2 : Int) (v3 : Int) (v4 : Int) (v5 : Int) (t0 : Int) (S : MS) : Option (Int × MS) := if w32 t0 ≤ 0 then q_Mo_feed_33 fU v1 v2 v3 v4 v5 0 (MS.w_m_code S t0) else some (0, MS.w_m_code S t0)

def s_Mo_feed (S : MS) (v1 : Int) (v2 : Int) (v3 : Int) (v4 : Int) (v5 : Int) : Option (Int × MS) := if w32 (S.m_length + 20) ≤ 65536 then q_Mo_feed_18 v1 v2 v3 v4 v5 0 S else q_Mo_feed_18 v1 v2 v3 v4 v5 1 S
set_option maxHeartbeats 4000000 in
set_option maxRecDepth 100000 in
theorem c_Mo_feed (l : Launch) (D : jd_T) (g : Nat → Nat) (S : MS) (v1 : Int) (v2 : Int) (v3 : Int) (v4 : Int) (v5 : Int) (r : Int) (S9 : MS) (hs : s_Mo_feed S v1 v2 v3 v4 v5 = some (r, S9)) : jc_C l D y_Mo_feed b_Mo_feed 8 (some .int) { frames := 0, cells := 0, slots := 0, locals := 0 } [.ref (g 0), .int (ii v1), .int (ii v2), .int (ii v3), .int (ii v4), .int (ii v5)] (moL D g S) (fun _ : Unit => (.returned (some (.int (ii r))), True, (moL D g S9))) := by
  refine jc_of rfl (Nat.le_of_ble_eq_true rfl) ?_
  intro X hl hR hN ok hnm fin
  subst hl
  have B_33 : ∀ (n33 : Nat), ∀ (v1 : Int) (v2 : Int) (v3 : Int) (v4 : Int) (v5 : Int) (v6 : Int) (S : MS), q_Mo_feed_33 n33 v1 v2 v3 v4 v5 v6 S = some (r, S9) → jw X 0 0 (moL D g S) [(0, .ref (g 0)), (1, .int (ii v1)), (2, .int (ii v2)), (3, .int (ii v3)), (4, .int (ii v4)), (5, .int (ii v5)), (6, .int (ii v6))] 33 [] := by
    intro n33
    induction n33 with
    | zero =>
      intro v1 v2 v3 v4 v5 v6 S hs
      rw [q_Mo_feed_33] at hs; cases hs
    | succ n33 ih33 =>
      have B_86 : ∀ (v1 : Int) (v2 : Int) (v3 : Int) (v4 : Int) (v5 : Int) (v6 : Int) (t0 : Int) (S : MS), q_Mo_feed_86 (q_Mo_feed_33 n33) v1 v2 v3 v4 v5 v6 t0 S = some (r, S9) → jw X 0 0 (moL D g S) [(0, .ref (g 0)), (1, .int (ii v1)), (2, .int (ii v2)), (3, .int (ii v3)), (4, .int (ii v4)), (5, .int (ii v5)), (6, .int (ii v6))] 86 [.int (ii t0)] := by
        intro v1 v2 v3 v4 v5 v6 t0 S hs
        rw [q_Mo_feed_86] at hs
        refine jr_istore [(7, .int (ii t0)), (0, .ref (g 0)), (1, .int (ii v1)), (2, .int (ii v2)), (3, .int (ii v3)), (4, .int (ii v4)), (5, .int (ii v5)), (6, .int (ii v6))] ok d_Mo_feed_86 (by rw [hN]; decide) rfl ?_
        refine jr_aload_n ok 1 d_Mo_feed_88 rfl rfl ?_
        refine jr_get (v := .ref (g 1)) ok 0 f_Mo_8 rfl rfl d_Mo_feed_89 ?_
        refine jr_aload_n ok 1 d_Mo_feed_92 rfl rfl ?_
        refine jr_get (v := .int (ii S.m_length)) ok 0 f_Mo_105 rfl rfl d_Mo_feed_93 ?_
        refine jr_iload ok 0 d_Mo_feed_96 rfl ?_
        refine jr_bipush ok d_Mo_feed_98 (by decide +kernel) ?_
        refine jr_bipush ok d_Mo_feed_100 (by decide +kernel) ?_
        refine jr_iload ok 7 d_Mo_feed_102 rfl ?_
        refine jr_iconst ok d_Mo_feed_104 ?_
        refine jr_irem (z := gRem v6 4) ok d_Mo_feed_105 (by decide +kernel) (ii_of _).symm ?_
        refine jr_imul ok d_Mo_feed_106 ?_
        refine jr_isub ok d_Mo_feed_107 ?_
        refine jr_ishr (z := gShr t0 (24 - (8 * (gRem v6 4)))) ok d_Mo_feed_108 (ii_of _).symm ?_
        refine jr_i2b (z := sb (gShr t0 (24 - (8 * (gRem v6 4))))) ok d_Mo_feed_109 (ii_i2b _) ?_
        obtain ⟨hb15, hs⟩ := oq_if hs
        refine jr_bast (moL D g (MS.w_m_tape S (aU S.m_tape S.m_length (sb (gShr t0 (24 - (8 * (gRem v6 4)))))))) ok 1 rfl rfl hb15.1 hb15.2 (nar_b (sb_R _)) rfl d_Mo_feed_110 ?_
        refine jr_aload_n ok 1 d_Mo_feed_111 rfl rfl ?_
        refine jr_dup rfl ok d_Mo_feed_112 ?_
        refine jr_get (v := .int (ii S.m_length)) ok 0 f_Mo_105 rfl rfl d_Mo_feed_113 ?_
        refine jr_iconst ok d_Mo_feed_116 ?_
        refine jr_iadd ok d_Mo_feed_117 ?_
        refine jr_put (moL D g (MS.w_m_length (MS.w_m_tape S (aU S.m_tape S.m_length (sb (gShr t0 (24 - (8 * (gRem v6 4))))))) (S.m_length + 1))) ok 0 f_Mo_105 rfl rfl rfl (Nat.le_of_ble_eq_true rfl) rfl d_Mo_feed_118 ?_
        refine jr_iinc [(6, .int (ii (v6 + 1))), (7, .int (ii t0)), (0, .ref (g 0)), (1, .int (ii v1)), (2, .int (ii v2)), (3, .int (ii v3)), (4, .int (ii v4)), (5, .int (ii v5))] 7 ok d_Mo_feed_121 rfl (by rw [hN]; decide) rfl ?_
        refine jr_goto 33 ok d_Mo_feed_124 (by decide) ?_
        exact jr_lv [2, 3, 4, 5, 6, 7, 0] rfl (ih33 v1 v2 v3 v4 v5 (v6 + 1) (MS.w_m_length (MS.w_m_tape S (aU S.m_tape S.m_length (sb (gShr t0 (24 - (8 * (gRem v6 4))))))) (S.m_length + 1)) hs)
      intro v1 v2 v3 v4 v5 v6 S hs
      rw [q_Mo_feed_33] at hs
      refine jr_iload ok 6 d_Mo_feed_33 rfl ?_
      refine jr_bipush ok d_Mo_feed_35 (by decide +kernel) ?_
      refine jr_wicmp_ge 127 ok rfl (show w32 20 = 20 by decide) d_Mo_feed_37 (by decide) (fun c10 => ?_) (fun c10 => ?_)
      · replace hs := oq_pos c10 hs
        refine jr_aload_n ok 0 d_Mo_feed_127 rfl rfl ?_
        refine jr_get (v := .int (ii S.m_length)) ok 0 f_Mo_105 rfl rfl d_Mo_feed_128 ?_
        exact jm_iret (Lf := moL D g) ok fin hs d_Mo_feed_131
      · replace hs := oq_neg c10 hs
        refine jr_iload ok 6 d_Mo_feed_40 rfl ?_
        refine jr_iconst ok d_Mo_feed_42 ?_
        refine jr_wicmp_ge 50 ok rfl (show w32 4 = 4 by decide) d_Mo_feed_43 (by decide) (fun c11 => ?_) (fun c11 => ?_)
        · replace hs := oq_pos c11 hs
          refine jr_iload ok 6 d_Mo_feed_50 rfl ?_
          refine jr_bipush ok d_Mo_feed_52 (by decide +kernel) ?_
          refine jr_wicmp_ge 61 ok rfl (show w32 8 = 8 by decide) d_Mo_feed_54 (by decide) (fun c12 => ?_) (fun c12 => ?_)
          · replace hs := oq_pos c12 hs
            refine jr_iload ok 6 d_Mo_feed_61 rfl ?_
            refine jr_bipush ok d_Mo_feed_63 (by decide +kernel) ?_
            refine jr_wicmp_ge 72 ok rfl (show w32 12 = 12 by decide) d_Mo_feed_65 (by decide) (fun c13 => ?_) (fun c13 => ?_)
            · replace hs := oq_pos c13 hs
              refine jr_iload ok 6 d_Mo_feed_72 rfl ?_
              refine jr_bipush ok d_Mo_feed_74 (by decide +kernel) ?_
              refine jr_wicmp_ge 84 ok rfl (show w32 16 = 16 by decide) d_Mo_feed_76 (by decide) (fun c14 => ?_) (fun c14 => ?_)
              · replace hs := oq_pos c14 hs
                refine jr_iload ok 5 d_Mo_feed_84 rfl ?_
                exact jr_lv [0, 1, 2, 3, 4, 5, 6] rfl (B_86 v1 v2 v3 v4 v5 v6 v5 S hs)
              · replace hs := oq_neg c14 hs
                refine jr_iload ok 4 d_Mo_feed_79 rfl ?_
                refine jr_goto 86 ok d_Mo_feed_81 (by decide) ?_
                exact jr_lv [0, 1, 2, 3, 4, 5, 6] rfl (B_86 v1 v2 v3 v4 v5 v6 v4 S hs)
            · replace hs := oq_neg c13 hs
              refine jr_iload_n ok 3 d_Mo_feed_68 rfl rfl ?_
              refine jr_goto 86 ok d_Mo_feed_69 (by decide) ?_
              exact jr_lv [0, 1, 2, 3, 4, 5, 6] rfl (B_86 v1 v2 v3 v4 v5 v6 v3 S hs)
          · replace hs := oq_neg c12 hs
            refine jr_iload_n ok 2 d_Mo_feed_57 rfl rfl ?_
            refine jr_goto 86 ok d_Mo_feed_58 (by decide) ?_
            exact jr_lv [0, 1, 2, 3, 4, 5, 6] rfl (B_86 v1 v2 v3 v4 v5 v6 v2 S hs)
        · replace hs := oq_neg c11 hs
          refine jr_iload_n ok 1 d_Mo_feed_46 rfl rfl ?_
          refine jr_goto 86 ok d_Mo_feed_47 (by decide) ?_
          exact jr_lv [0, 1, 2, 3, 4, 5, 6] rfl (B_86 v1 v2 v3 v4 v5 v6 v1 S hs)
  have B_18 : ∀ (v1 : Int) (v2 : Int) (v3 : Int) (v4 : Int) (v5 : Int) (t0 : Int) (S : MS), q_Mo_feed_18 v1 v2 v3 v4 v5 t0 S = some (r, S9) → jw X 0 0 (moL D g S) [(0, .ref (g 0)), (1, .int (ii v1)), (2, .int (ii v2)), (3, .int (ii v3)), (4, .int (ii v4)), (5, .int (ii v5))] 18 [.int (ii t0), .ref (g 0)] := by
    intro v1 v2 v3 v4 v5 t0 S hs
    rw [q_Mo_feed_18] at hs
    refine jr_put (moL D g (MS.w_m_code S t0)) ok 0 f_Mo_101 rfl rfl rfl (Nat.le_of_ble_eq_true rfl) rfl d_Mo_feed_18 ?_
    refine jr_aload_n ok 0 d_Mo_feed_21 rfl rfl ?_
    refine jr_get (v := .int (ii t0)) ok 0 f_Mo_101 rfl rfl d_Mo_feed_22 ?_
    refine jr_wif_le 30 ok rfl d_Mo_feed_25 (by decide) (fun c9 => ?_) (fun c9 => ?_)
    · replace hs := oq_pos c9 hs
      refine jr_iconst ok d_Mo_feed_30 ?_
      refine jr_istore [(6, .int (ii 0)), (0, .ref (g 0)), (1, .int (ii v1)), (2, .int (ii v2)), (3, .int (ii v3)), (4, .int (ii v4)), (5, .int (ii v5))] ok d_Mo_feed_31 (by rw [hN]; decide) rfl ?_
      exact jr_lv [1, 2, 3, 4, 5, 6, 0] rfl (B_33 fU v1 v2 v3 v4 v5 0 (MS.w_m_code S t0) hs)
    · replace hs := oq_neg c9 hs
      refine jr_iconst ok d_Mo_feed_28 ?_
      exact jm_iret (Lf := moL D g) ok fin hs d_Mo_feed_29
  show jw X 0 0 (moL D g S) [(0, .ref (g 0)), (1, .int (ii v1)), (2, .int (ii v2)), (3, .int (ii v3)), (4, .int (ii v4)), (5, .int (ii v5))] 0 []
  rw [s_Mo_feed] at hs
  refine jr_aload_n ok 0 d_Mo_feed_0 rfl rfl ?_
  refine jr_aload_n ok 0 d_Mo_feed_1 rfl rfl ?_
  refine jr_get (v := .int (ii S.m_length)) ok 0 f_Mo_105 rfl rfl d_Mo_feed_2 ?_
  refine jr_bipush ok d_Mo_feed_5 (by decide +kernel) ?_
  refine jr_iadd ok d_Mo_feed_7 ?_
  refine jr_ldc (z := 65536) ok w_1350 (by decide +kernel) d_Mo_feed_8 ?_
  refine jr_wicmp_le 17 ok rfl (show w32 65536 = 65536 by decide) d_Mo_feed_10 (by decide) (fun c16 => ?_) (fun c16 => ?_)
  · replace hs := oq_pos c16 hs
    refine jr_iconst ok d_Mo_feed_17 ?_
    exact jr_lv [0, 1, 2, 3, 4, 5] rfl (B_18 v1 v2 v3 v4 v5 0 S hs)
  · replace hs := oq_neg c16 hs
    refine jr_iconst ok d_Mo_feed_13 ?_
    refine jr_goto 18 ok d_Mo_feed_14 (by decide) ?_
    exact jr_lv [0, 1, 2, 3, 4, 5] rfl (B_18 v1 v2 v3 v4 v5 1 S hs)

def q_Mo_end_37 (t0 : Int) (S : MS) : Option (Unit × MS) := some ((), MS.w_m_length S t0)

def q_Mo_end_18 (v1 : Int) (t0 : Int) (S : MS) : Option (Unit × MS) := if w32 t0 = 0 then q_Mo_end_37 v1 (MS.w_m_code S t0) else q_Mo_end_37 S.m_length (MS.w_m_code S t0)

def q_Mo_end_13 (v1 : Int) (S : MS) : Option (Unit × MS) := q_Mo_end_18 v1 1 S

def s_Mo_end (S : MS) (v1 : Int) : Option (Unit × MS) := if w32 v1 < 0 then q_Mo_end_13 v1 S else if w32 v1 ≤ w32 S.m_length then q_Mo_end_18 v1 0 S else q_Mo_end_13 v1 S
set_option maxHeartbeats 4000000 in
set_option maxRecDepth 100000 in
theorem c_Mo_end (l : Launch) (D : jd_T) (g : Nat → Nat) (S : MS) (v1 : Int) (r : Unit) (S9 : MS) (hs : s_Mo_end S v1 = some (r, S9)) : jc_C l D y_Mo_end b_Mo_end 2 none { frames := 0, cells := 0, slots := 0, locals := 0 } [.ref (g 0), .int (ii v1)] (moL D g S) (fun _ : Unit => (.returned (none), True, (moL D g S9))) := by
  refine jc_of rfl (Nat.le_of_ble_eq_true rfl) ?_
  intro X hl hR hN ok hnm fin
  subst hl
  have B_37 : ∀ (t0 : Int) (S : MS), q_Mo_end_37 t0 S = some (r, S9) → jw X 0 0 (moL D g S) [] 37 [.int (ii t0), .ref (g 0)] := by
    intro t0 S hs
    rw [q_Mo_end_37] at hs
    refine jr_put (moL D g (MS.w_m_length S t0)) ok 0 f_Mo_105 rfl rfl rfl (Nat.le_of_ble_eq_true rfl) rfl d_Mo_end_37 ?_
    exact jm_vret (Lf := moL D g) ok fin hs d_Mo_end_40
  have B_18 : ∀ (v1 : Int) (t0 : Int) (S : MS), q_Mo_end_18 v1 t0 S = some (r, S9) → jw X 0 0 (moL D g S) [(0, .ref (g 0)), (1, .int (ii v1))] 18 [.int (ii t0), .ref (g 0)] := by
    intro v1 t0 S hs
    rw [q_Mo_end_18] at hs
    refine jr_put (moL D g (MS.w_m_code S t0)) ok 0 f_Mo_101 rfl rfl rfl (Nat.le_of_ble_eq_true rfl) rfl d_Mo_end_18 ?_
    refine jr_aload_n ok 0 d_Mo_end_21 rfl rfl ?_
    refine jr_aload_n ok 0 d_Mo_end_22 rfl rfl ?_
    refine jr_get (v := .int (ii t0)) ok 0 f_Mo_101 rfl rfl d_Mo_end_23 ?_
    refine jr_wif_ne 33 ok rfl d_Mo_end_26 (by decide) (fun c4 => ?_) (fun c4 => ?_)
    · replace hs := oq_neg c4 hs
      refine jr_aload_n ok 0 d_Mo_end_33 rfl rfl ?_
      refine jr_get (v := .int (ii S.m_length)) ok 0 f_Mo_105 rfl rfl d_Mo_end_34 ?_
      exact jr_lv [] rfl (B_37 S.m_length (MS.w_m_code S t0) hs)
    · replace hs := oq_pos c4 hs
      refine jr_iload_n ok 1 d_Mo_end_29 rfl rfl ?_
      refine jr_goto 37 ok d_Mo_end_30 (by decide) ?_
      exact jr_lv [] rfl (B_37 v1 (MS.w_m_code S t0) hs)
  have B_13 : ∀ (v1 : Int) (S : MS), q_Mo_end_13 v1 S = some (r, S9) → jw X 0 0 (moL D g S) [(0, .ref (g 0)), (1, .int (ii v1))] 13 [.ref (g 0)] := by
    intro v1 S hs
    rw [q_Mo_end_13] at hs
    refine jr_iconst ok d_Mo_end_13 ?_
    refine jr_goto 18 ok d_Mo_end_14 (by decide) ?_
    exact jr_lv [0, 1] rfl (B_18 v1 1 S hs)
  show jw X 0 0 (moL D g S) [(0, .ref (g 0)), (1, .int (ii v1))] 0 []
  rw [s_Mo_end] at hs
  refine jr_aload_n ok 0 d_Mo_end_0 rfl rfl ?_
  refine jr_iload_n ok 1 d_Mo_end_1 rfl rfl ?_
  refine jr_wif_lt 13 ok rfl d_Mo_end_2 (by decide) (fun c5 => ?_) (fun c5 => ?_)
  · replace hs := oq_pos c5 hs
    exact jr_lv [0, 1] rfl (B_13 v1 S hs)
  · replace hs := oq_neg c5 hs
    refine jr_iload_n ok 1 d_Mo_end_5 rfl rfl ?_
    refine jr_aload_n ok 0 d_Mo_end_6 rfl rfl ?_
    refine jr_get (v := .int (ii S.m_length)) ok 0 f_Mo_105 rfl rfl d_Mo_end_7 ?_
    refine jr_wicmp_le 17 ok rfl rfl d_Mo_end_10 (by decide) (fun c6 => ?_) (fun c6 => ?_)
    · replace hs := oq_pos c6 hs
      refine jr_iconst ok d_Mo_end_17 ?_
      exact jr_lv [0, 1] rfl (B_18 v1 0 S hs)
    · replace hs := oq_neg c6 hs
      exact jr_lv [0, 1] rfl (B_13 v1 S hs)

def s_Mo_flaw (S : MS) (v1 : Int) (v2 : Int) : Option (Int × MS) := if w32 S.m_faultCode = 0 then some (0, MS.w_m_faultPlace (MS.w_m_faultCode S v1) v2) else some (0, S)
set_option maxHeartbeats 4000000 in
set_option maxRecDepth 100000 in
theorem c_Mo_flaw (l : Launch) (D : jd_T) (g : Nat → Nat) (S : MS) (v1 : Int) (v2 : Int) (r : Int) (S9 : MS) (hs : s_Mo_flaw S v1 v2 = some (r, S9)) : jc_C l D y_Mo_flaw b_Mo_flaw 3 (some .boolean) { frames := 0, cells := 0, slots := 0, locals := 0 } [.ref (g 0), .int (ii v1), .int (ii v2)] (moL D g S) (fun _ : Unit => (.returned (some (.int (ii r))), True, (moL D g S9))) := by
  refine jc_of rfl (Nat.le_of_ble_eq_true rfl) ?_
  intro X hl hR hN ok hnm fin
  subst hl
  show jw X 0 0 (moL D g S) [(0, .ref (g 0)), (1, .int (ii v1)), (2, .int (ii v2))] 0 []
  rw [s_Mo_flaw] at hs
  refine jr_aload_n ok 0 d_Mo_flaw_0 rfl rfl ?_
  refine jr_get (v := .int (ii S.m_faultCode)) ok 0 f_Mo_108 rfl rfl d_Mo_flaw_1 ?_
  refine jr_wif_ne 17 ok rfl d_Mo_flaw_4 (by decide) (fun c2 => ?_) (fun c2 => ?_)
  · replace hs := oq_neg c2 hs
    refine jr_iconst ok d_Mo_flaw_17 ?_
    exact jm_zret (Lf := moL D g) ok (by decide +kernel) fin hs d_Mo_flaw_18
  · replace hs := oq_pos c2 hs
    refine jr_aload_n ok 0 d_Mo_flaw_7 rfl rfl ?_
    refine jr_iload_n ok 1 d_Mo_flaw_8 rfl rfl ?_
    refine jr_put (moL D g (MS.w_m_faultCode S v1)) ok 0 f_Mo_108 rfl rfl rfl (Nat.le_of_ble_eq_true rfl) rfl d_Mo_flaw_9 ?_
    refine jr_aload_n ok 0 d_Mo_flaw_12 rfl rfl ?_
    refine jr_iload_n ok 2 d_Mo_flaw_13 rfl rfl ?_
    refine jr_put (moL D g (MS.w_m_faultPlace (MS.w_m_faultCode S v1) v2)) ok 0 f_Mo_111 rfl rfl rfl (Nat.le_of_ble_eq_true rfl) rfl d_Mo_flaw_14 ?_
    refine jr_iconst ok d_Mo_flaw_17 ?_
    exact jm_zret (Lf := moL D g) ok (by decide +kernel) fin hs d_Mo_flaw_18

def q_Mo_numberAt_5 : Nat → Int → Int64 → Int → MS → Option (Int64 × MS)
  | 0, _, _, _, _ => none
  | n + 1, v1, v2, v4, S => if 8 ≤ w32 v4 then some (v2, S) else if (0 : Int) ≤ (v1 + v4) ∧ (v1 + v4) < (65536 : Int) then (q_Mo_numberAt_5 n) v1 ((v2 <<< ((ii 8).toInt64 &&& 63)) ||| (ll (w32 (gAnd (S.m_tape (v1 + v4)) 255)))) (v4 + 1) S else none

def s_Mo_numberAt (S : MS) (v1 : Int) : Option (Int64 × MS) := q_Mo_numberAt_5 fU v1 (ll 0) 0 S
set_option maxHeartbeats 4000000 in
set_option maxRecDepth 100000 in
theorem c_Mo_numberAt (l : Launch) (D : jd_T) (g : Nat → Nat) (S : MS) (v1 : Int) (r : Int64) (S9 : MS) (hs : s_Mo_numberAt S v1 = some (r, S9)) : jc_C l D y_Mo_numberAt b_Mo_numberAt 5 (some .long) { frames := 0, cells := 0, slots := 0, locals := 0 } [.ref (g 0), .int (ii v1)] (moL D g S) (fun _ : Unit => (.returned (some (.long r)), True, (moL D g S9))) := by
  refine jc_of rfl (Nat.le_of_ble_eq_true rfl) ?_
  intro X hl hR hN ok hnm fin
  subst hl
  have B_5 : ∀ (n5 : Nat), ∀ (v1 : Int) (v2 : Int64) (v4 : Int) (S : MS), q_Mo_numberAt_5 n5 v1 v2 v4 S = some (r, S9) → jw X 0 0 (moL D g S) [(0, .ref (g 0)), (1, .int (ii v1)), (2, .long v2), (4, .int (ii v4))] 5 [] := by
    intro n5
    induction n5 with
    | zero =>
      intro v1 v2 v4 S hs
      rw [q_Mo_numberAt_5] at hs; cases hs
    | succ n5 ih5 =>
      intro v1 v2 v4 S hs
      rw [q_Mo_numberAt_5] at hs
      refine jr_iload ok 3 d_Mo_numberAt_5 rfl ?_
      refine jr_bipush ok d_Mo_numberAt_7 (by decide +kernel) ?_
      refine jr_wicmp_ge 38 ok rfl (show w32 8 = 8 by decide) d_Mo_numberAt_9 (by decide) (fun c3 => ?_) (fun c3 => ?_)
      · replace hs := oq_pos c3 hs
        refine jr_lload_n ok 2 d_Mo_numberAt_38 rfl rfl ?_
        exact jm_lret (Lf := moL D g) ok fin hs d_Mo_numberAt_39
      · replace hs := oq_neg c3 hs
        refine jr_lload_n ok 2 d_Mo_numberAt_12 rfl rfl ?_
        refine jr_bipush ok d_Mo_numberAt_13 (by decide +kernel) ?_
        refine jr_lshlx ok d_Mo_numberAt_15 ?_
        refine jr_aload_n ok 0 d_Mo_numberAt_16 rfl rfl ?_
        refine jr_get (v := .ref (g 1)) ok 0 f_Mo_8 rfl rfl d_Mo_numberAt_17 ?_
        refine jr_iload_n ok 1 d_Mo_numberAt_20 rfl rfl ?_
        refine jr_iload ok 3 d_Mo_numberAt_21 rfl ?_
        refine jr_iadd ok d_Mo_numberAt_23 ?_
        obtain ⟨hb4, hs⟩ := oq_if hs
        refine jr_bald ok 1 rfl rfl hb4.1 hb4.2 d_Mo_numberAt_24 ?_
        refine jr_sipush ok d_Mo_numberAt_25 (by decide +kernel) ?_
        refine jr_iand (z := gAnd (S.m_tape (v1 + v4)) 255) ok d_Mo_numberAt_28 (ii_of _).symm ?_
        refine jr_wi2l ok rfl d_Mo_numberAt_29 ?_
        refine jr_lorx ok d_Mo_numberAt_30 ?_
        refine jr_lstore_n [(2, .long ((v2 <<< ((ii 8).toInt64 &&& 63)) ||| (ll (w32 (gAnd (S.m_tape (v1 + v4)) 255))))), (0, .ref (g 0)), (1, .int (ii v1)), (4, .int (ii v4))] ok d_Mo_numberAt_31 rfl (by rw [hN]; decide) rfl ?_
        refine jr_iinc [(4, .int (ii (v4 + 1))), (2, .long ((v2 <<< ((ii 8).toInt64 &&& 63)) ||| (ll (w32 (gAnd (S.m_tape (v1 + v4)) 255))))), (0, .ref (g 0)), (1, .int (ii v1))] 3 ok d_Mo_numberAt_32 rfl (by rw [hN]; decide) rfl ?_
        refine jr_goto 5 ok d_Mo_numberAt_35 (by decide) ?_
        exact jr_lv [2, 3, 1, 0] rfl (ih5 v1 ((v2 <<< ((ii 8).toInt64 &&& 63)) ||| (ll (w32 (gAnd (S.m_tape (v1 + v4)) 255)))) (v4 + 1) S hs)
  show jw X 0 0 (moL D g S) [(0, .ref (g 0)), (1, .int (ii v1))] 0 []
  rw [s_Mo_numberAt] at hs
  refine jr_lconst (z := 0) ok d_Mo_numberAt_0 (by decide +kernel) ?_
  refine jr_lstore_n [(2, .long (ll 0)), (0, .ref (g 0)), (1, .int (ii v1))] ok d_Mo_numberAt_1 rfl (by rw [hN]; decide) rfl ?_
  refine jr_iconst ok d_Mo_numberAt_2 ?_
  refine jr_istore [(4, .int (ii 0)), (2, .long (ll 0)), (0, .ref (g 0)), (1, .int (ii v1))] ok d_Mo_numberAt_3 (by rw [hN]; decide) rfl ?_
  exact jr_lv [2, 3, 1, 0] rfl (B_5 fU v1 (ll 0) 0 S hs)

def q_Mo_between_91 (k6 : Int → Int64 → Int64 → Int → Int → Int → MS → Option (Int × MS)) (v1 : Int) (v2 : Int64) (v4 : Int64) (v6 : Int) (v8 : Int) (t0 : Int) (t1 : Int) (S : MS) : Option (Int × MS) := k6 v1 v2 v4 v6 (t1 + t0) (v8 + 1) S

def q_Mo_between_90 (k6 : Int → Int64 → Int64 → Int → Int → Int → MS → Option (Int × MS)) (v1 : Int) (v2 : Int64) (v4 : Int64) (v6 : Int) (v8 : Int) (t0 : Int) (S : MS) : Option (Int × MS) := q_Mo_between_91 k6 v1 v2 v4 v6 v8 0 t0 S

def q_Mo_between_86 (k6 : Int → Int64 → Int64 → Int → Int → Int → MS → Option (Int × MS)) (v1 : Int) (v2 : Int64) (v4 : Int64) (v6 : Int) (v8 : Int) (t0 : Int) (S : MS) : Option (Int × MS) := q_Mo_between_91 k6 v1 v2 v4 v6 v8 1 t0 S

def q_Mo_between_61 (k6 : Int → Int64 → Int64 → Int → Int → Int → MS → Option (Int × MS)) (v1 : Int) (v2 : Int64) (v4 : Int64) (v6 : Int) (v7 : Int) (v8 : Int) (t0 : Int) (S : MS) : Option (Int × MS) := if w32 t0 = 0 then q_Mo_between_90 k6 v1 v2 v4 v6 v8 v7 S else if w32 v6 = 0 then q_Mo_between_86 k6 v1 v2 v4 v6 v8 v7 S else if (0 : Int) ≤ v8 ∧ v8 < (8192 : Int) then if w32 (S.m_places v8) = 1 then q_Mo_between_86 k6 v1 v2 v4 v6 v8 v7 S else q_Mo_between_90 k6 v1 v2 v4 v6 v8 v7 S else none

def q_Mo_between_60 (k6 : Int → Int64 → Int64 → Int → Int → Int → MS → Option (Int × MS)) (v1 : Int) (v2 : Int64) (v4 : Int64) (v6 : Int) (v7 : Int) (v8 : Int) (S : MS) : Option (Int × MS) := q_Mo_between_61 k6 v1 v2 v4 v6 v7 v8 0 S

def q_Mo_between_31 (k6 : Int → Int64 → Int64 → Int → Int → Int → MS → Option (Int × MS)) (v1 : Int) (v2 : Int64) (v4 : Int64) (v6 : Int) (v7 : Int) (v8 : Int) (S : MS) : Option (Int × MS) := if (0 : Int) ≤ v8 ∧ v8 < (8192 : Int) then if (S.m_pointTimes v8).toInt < v2.toInt then q_Mo_between_60 k6 v1 v2 v4 v6 v7 v8 S else if (0 : Int) ≤ v8 ∧ v8 < (8192 : Int) then if v4.toInt < (S.m_pointTimes v8).toInt then q_Mo_between_60 k6 v1 v2 v4 v6 v7 v8 S else q_Mo_between_61 k6 v1 v2 v4 v6 v7 v8 1 S else none else none

def q_Mo_between_6 : Nat → Int → Int64 → Int64 → Int → Int → Int → MS → Option (Int × MS)
  | 0, _, _, _, _, _, _, _ => none
  | n + 1, v1, v2, v4, v6, v7, v8, S => if w32 S.m_points ≤ w32 v8 then some (v7, S) else if w32 v1 = (-1) then q_Mo_between_31 (q_Mo_between_6 n) v1 v2 v4 v6 v7 v8 S else if (0 : Int) ≤ v8 ∧ v8 < (8192 : Int) then if w32 (S.m_pointSeries v8) = w32 v1 then q_Mo_between_31 (q_Mo_between_6 n) v1 v2 v4 v6 v7 v8 S else q_Mo_between_60 (q_Mo_between_6 n) v1 v2 v4 v6 v7 v8 S else none

def s_Mo_between (S : MS) (v1 : Int) (v2 : Int64) (v4 : Int64) (v6 : Int) : Option (Int × MS) := q_Mo_between_6 fU v1 v2 v4 v6 0 0 S
set_option maxHeartbeats 4000000 in
set_option maxRecDepth 100000 in
theorem c_Mo_between (l : Launch) (D : jd_T) (g : Nat → Nat) (S : MS) (v1 : Int) (v2 : Int64) (v4 : Int64) (v6 : Int) (r : Int) (S9 : MS) (hs : s_Mo_between S v1 v2 v4 v6 = some (r, S9)) : jc_C l D y_Mo_between b_Mo_between 10 (some .int) { frames := 0, cells := 0, slots := 0, locals := 0 } [.ref (g 0), .int (ii v1), .long v2, .long v4, .int (ii v6)] (moL D g S) (fun _ : Unit => (.returned (some (.int (ii r))), True, (moL D g S9))) := by
  refine jc_of rfl (Nat.le_of_ble_eq_true rfl) ?_
  intro X hl hR hN ok hnm fin
  subst hl
  have B_6 : ∀ (n6 : Nat), ∀ (v1 : Int) (v2 : Int64) (v4 : Int64) (v6 : Int) (v7 : Int) (v8 : Int) (S : MS), q_Mo_between_6 n6 v1 v2 v4 v6 v7 v8 S = some (r, S9) → jw X 0 0 (moL D g S) [(0, .ref (g 0)), (1, .int (ii v1)), (2, .long v2), (4, .long v4), (6, .int (ii v6)), (7, .int (ii v7)), (8, .int (ii v8))] 6 [] := by
    intro n6
    induction n6 with
    | zero =>
      intro v1 v2 v4 v6 v7 v8 S hs
      rw [q_Mo_between_6] at hs; cases hs
    | succ n6 ih6 =>
      have B_91 : ∀ (v1 : Int) (v2 : Int64) (v4 : Int64) (v6 : Int) (v8 : Int) (t0 : Int) (t1 : Int) (S : MS), q_Mo_between_91 (q_Mo_between_6 n6) v1 v2 v4 v6 v8 t0 t1 S = some (r, S9) → jw X 0 0 (moL D g S) [(0, .ref (g 0)), (1, .int (ii v1)), (2, .long v2), (4, .long v4), (6, .int (ii v6)), (8, .int (ii v8))] 91 [.int (ii t0), .int (ii t1)] := by
        intro v1 v2 v4 v6 v8 t0 t1 S hs
        rw [q_Mo_between_91] at hs
        refine jr_iadd ok d_Mo_between_91 ?_
        refine jr_istore [(7, .int (ii (t1 + t0))), (0, .ref (g 0)), (1, .int (ii v1)), (2, .long v2), (4, .long v4), (6, .int (ii v6)), (8, .int (ii v8))] ok d_Mo_between_92 (by rw [hN]; decide) rfl ?_
        refine jr_iinc [(8, .int (ii (v8 + 1))), (7, .int (ii (t1 + t0))), (0, .ref (g 0)), (1, .int (ii v1)), (2, .long v2), (4, .long v4), (6, .int (ii v6))] 6 ok d_Mo_between_94 rfl (by rw [hN]; decide) rfl ?_
        refine jr_goto 6 ok d_Mo_between_97 (by decide) ?_
        exact jr_lv [2, 3, 4, 5, 6, 1, 0] rfl (ih6 v1 v2 v4 v6 (t1 + t0) (v8 + 1) S hs)
      have B_90 : ∀ (v1 : Int) (v2 : Int64) (v4 : Int64) (v6 : Int) (v8 : Int) (t0 : Int) (S : MS), q_Mo_between_90 (q_Mo_between_6 n6) v1 v2 v4 v6 v8 t0 S = some (r, S9) → jw X 0 0 (moL D g S) [(0, .ref (g 0)), (1, .int (ii v1)), (2, .long v2), (4, .long v4), (6, .int (ii v6)), (8, .int (ii v8))] 90 [.int (ii t0)] := by
        intro v1 v2 v4 v6 v8 t0 S hs
        rw [q_Mo_between_90] at hs
        refine jr_iconst ok d_Mo_between_90 ?_
        exact jr_lv [0, 1, 2, 3, 4, 5] rfl (B_91 v1 v2 v4 v6 v8 0 t0 S hs)
      have B_86 : ∀ (v1 : Int) (v2 : Int64) (v4 : Int64) (v6 : Int) (v8 : Int) (t0 : Int) (S : MS), q_Mo_between_86 (q_Mo_between_6 n6) v1 v2 v4 v6 v8 t0 S = some (r, S9) → jw X 0 0 (moL D g S) [(0, .ref (g 0)), (1, .int (ii v1)), (2, .long v2), (4, .long v4), (6, .int (ii v6)), (8, .int (ii v8))] 86 [.int (ii t0)] := by
        intro v1 v2 v4 v6 v8 t0 S hs
        rw [q_Mo_between_86] at hs
        refine jr_iconst ok d_Mo_between_86 ?_
        refine jr_goto 91 ok d_Mo_between_87 (by decide) ?_
        exact jr_lv [0, 1, 2, 3, 4, 5] rfl (B_91 v1 v2 v4 v6 v8 1 t0 S hs)
      have B_61 : ∀ (v1 : Int) (v2 : Int64) (v4 : Int64) (v6 : Int) (v7 : Int) (v8 : Int) (t0 : Int) (S : MS), q_Mo_between_61 (q_Mo_between_6 n6) v1 v2 v4 v6 v7 v8 t0 S = some (r, S9) → jw X 0 0 (moL D g S) [(0, .ref (g 0)), (1, .int (ii v1)), (2, .long v2), (4, .long v4), (6, .int (ii v6)), (7, .int (ii v7)), (8, .int (ii v8))] 61 [.int (ii t0)] := by
        intro v1 v2 v4 v6 v7 v8 t0 S hs
        rw [q_Mo_between_61] at hs
        refine jr_istore [(9, .int (ii t0)), (0, .ref (g 0)), (1, .int (ii v1)), (2, .long v2), (4, .long v4), (6, .int (ii v6)), (7, .int (ii v7)), (8, .int (ii v8))] ok d_Mo_between_61 (by rw [hN]; decide) rfl ?_
        refine jr_iload ok 6 d_Mo_between_63 rfl ?_
        refine jr_iload ok 0 d_Mo_between_65 rfl ?_
        refine jr_wif_eq 90 ok rfl d_Mo_between_67 (by decide) (fun c21 => ?_) (fun c21 => ?_)
        · replace hs := oq_pos c21 hs
          exact jr_lv [1, 2, 3, 4, 5, 7] rfl (B_90 v1 v2 v4 v6 v8 v7 S hs)
        · replace hs := oq_neg c21 hs
          refine jr_iload ok 5 d_Mo_between_70 rfl ?_
          refine jr_wif_eq 86 ok rfl d_Mo_between_72 (by decide) (fun c22 => ?_) (fun c22 => ?_)
          · replace hs := oq_pos c22 hs
            exact jr_lv [1, 2, 3, 4, 5, 7] rfl (B_86 v1 v2 v4 v6 v8 v7 S hs)
          · replace hs := oq_neg c22 hs
            refine jr_aload_n ok 1 d_Mo_between_75 rfl rfl ?_
            refine jr_get (v := .ref (g 8)) ok 0 f_Mo_35 rfl rfl d_Mo_between_76 ?_
            refine jr_iload ok 7 d_Mo_between_79 rfl ?_
            obtain ⟨hb23, hs⟩ := oq_if hs
            refine jr_bald ok 8 rfl rfl hb23.1 hb23.2 d_Mo_between_81 ?_
            refine jr_iconst ok d_Mo_between_82 ?_
            refine jr_wicmp_ne 90 ok rfl (show w32 1 = 1 by decide) d_Mo_between_83 (by decide) (fun c24 => ?_) (fun c24 => ?_)
            · replace hs := oq_neg c24 hs
              exact jr_lv [1, 2, 3, 4, 5, 7] rfl (B_90 v1 v2 v4 v6 v8 v7 S hs)
            · replace hs := oq_pos c24 hs
              exact jr_lv [1, 2, 3, 4, 5, 7] rfl (B_86 v1 v2 v4 v6 v8 v7 S hs)
      have B_60 : ∀ (v1 : Int) (v2 : Int64) (v4 : Int64) (v6 : Int) (v7 : Int) (v8 : Int) (S : MS), q_Mo_between_60 (q_Mo_between_6 n6) v1 v2 v4 v6 v7 v8 S = some (r, S9) → jw X 0 0 (moL D g S) [(0, .ref (g 0)), (1, .int (ii v1)), (2, .long v2), (4, .long v4), (6, .int (ii v6)), (7, .int (ii v7)), (8, .int (ii v8))] 60 [] := by
        intro v1 v2 v4 v6 v7 v8 S hs
        rw [q_Mo_between_60] at hs
        refine jr_iconst ok d_Mo_between_60 ?_
        exact jr_lv [0, 1, 2, 3, 4, 5, 6] rfl (B_61 v1 v2 v4 v6 v7 v8 0 S hs)
      have B_31 : ∀ (v1 : Int) (v2 : Int64) (v4 : Int64) (v6 : Int) (v7 : Int) (v8 : Int) (S : MS), q_Mo_between_31 (q_Mo_between_6 n6) v1 v2 v4 v6 v7 v8 S = some (r, S9) → jw X 0 0 (moL D g S) [(0, .ref (g 0)), (1, .int (ii v1)), (2, .long v2), (4, .long v4), (6, .int (ii v6)), (7, .int (ii v7)), (8, .int (ii v8))] 31 [] := by
        intro v1 v2 v4 v6 v7 v8 S hs
        rw [q_Mo_between_31] at hs
        refine jr_aload_n ok 0 d_Mo_between_31 rfl rfl ?_
        refine jr_get (v := .ref (g 6)) ok 0 f_Mo_29 rfl rfl d_Mo_between_32 ?_
        refine jr_iload ok 6 d_Mo_between_35 rfl ?_
        obtain ⟨hb17, hs⟩ := oq_if hs
        refine jr_lald ok 6 rfl rfl hb17.1 hb17.2 d_Mo_between_37 ?_
        refine jr_lload_n ok 2 d_Mo_between_38 rfl rfl ?_
        refine jr_lif_lt 60 ok rfl rfl d_Mo_between_39 d_Mo_between_40 (by decide) (fun c18 => ?_) (fun c18 => ?_)
        · replace hs := oq_pos c18 hs
          exact jr_lv [0, 1, 2, 3, 4, 5, 6] rfl (B_60 v1 v2 v4 v6 v7 v8 S hs)
        · replace hs := oq_neg c18 hs
          refine jr_aload_n ok 0 d_Mo_between_43 rfl rfl ?_
          refine jr_get (v := .ref (g 6)) ok 0 f_Mo_29 rfl rfl d_Mo_between_44 ?_
          refine jr_iload ok 6 d_Mo_between_47 rfl ?_
          obtain ⟨hb19, hs⟩ := oq_if hs
          refine jr_lald ok 6 rfl rfl hb19.1 hb19.2 d_Mo_between_49 ?_
          refine jr_lload ok 3 d_Mo_between_50 rfl ?_
          refine jr_lif_gt 60 ok rfl rfl d_Mo_between_52 d_Mo_between_53 (by decide) (fun c20 => ?_) (fun c20 => ?_)
          · replace hs := oq_pos c20 hs
            exact jr_lv [0, 1, 2, 3, 4, 5, 6] rfl (B_60 v1 v2 v4 v6 v7 v8 S hs)
          · replace hs := oq_neg c20 hs
            refine jr_iconst ok d_Mo_between_56 ?_
            refine jr_goto 61 ok d_Mo_between_57 (by decide) ?_
            exact jr_lv [0, 1, 2, 3, 4, 5, 6] rfl (B_61 v1 v2 v4 v6 v7 v8 1 S hs)
      intro v1 v2 v4 v6 v7 v8 S hs
      rw [q_Mo_between_6] at hs
      refine jr_iload ok 6 d_Mo_between_6 rfl ?_
      refine jr_aload_n ok 0 d_Mo_between_8 rfl rfl ?_
      refine jr_get (v := .int (ii S.m_points)) ok 0 f_Mo_152 rfl rfl d_Mo_between_9 ?_
      refine jr_wicmp_ge 100 ok rfl rfl d_Mo_between_12 (by decide) (fun c13 => ?_) (fun c13 => ?_)
      · replace hs := oq_pos c13 hs
        refine jr_iload ok 5 d_Mo_between_100 rfl ?_
        exact jm_iret (Lf := moL D g) ok fin hs d_Mo_between_102
      · replace hs := oq_neg c13 hs
        refine jr_iload_n ok 1 d_Mo_between_15 rfl rfl ?_
        refine jr_iconst ok d_Mo_between_16 ?_
        refine jr_wicmp_eq 31 ok rfl (show w32 (-1) = (-1) by decide) d_Mo_between_17 (by decide) (fun c14 => ?_) (fun c14 => ?_)
        · replace hs := oq_pos c14 hs
          exact jr_lv [0, 1, 2, 3, 4, 5, 6] rfl (B_31 v1 v2 v4 v6 v7 v8 S hs)
        · replace hs := oq_neg c14 hs
          refine jr_aload_n ok 0 d_Mo_between_20 rfl rfl ?_
          refine jr_get (v := .ref (g 5)) ok 0 f_Mo_26 rfl rfl d_Mo_between_21 ?_
          refine jr_iload ok 6 d_Mo_between_24 rfl ?_
          obtain ⟨hb15, hs⟩ := oq_if hs
          refine jr_iald ok 5 rfl rfl hb15.1 hb15.2 d_Mo_between_26 ?_
          refine jr_iload_n ok 1 d_Mo_between_27 rfl rfl ?_
          refine jr_wicmp_ne 60 ok rfl rfl d_Mo_between_28 (by decide) (fun c16 => ?_) (fun c16 => ?_)
          · replace hs := oq_neg c16 hs
            exact jr_lv [0, 1, 2, 3, 4, 5, 6] rfl (B_60 v1 v2 v4 v6 v7 v8 S hs)
          · replace hs := oq_pos c16 hs
            exact jr_lv [0, 1, 2, 3, 4, 5, 6] rfl (B_31 v1 v2 v4 v6 v7 v8 S hs)
  show jw X 0 0 (moL D g S) [(0, .ref (g 0)), (1, .int (ii v1)), (2, .long v2), (4, .long v4), (6, .int (ii v6))] 0 []
  rw [s_Mo_between] at hs
  refine jr_iconst ok d_Mo_between_0 ?_
  refine jr_istore [(7, .int (ii 0)), (0, .ref (g 0)), (1, .int (ii v1)), (2, .long v2), (4, .long v4), (6, .int (ii v6))] ok d_Mo_between_1 (by rw [hN]; decide) rfl ?_
  refine jr_iconst ok d_Mo_between_3 ?_
  refine jr_istore [(8, .int (ii 0)), (7, .int (ii 0)), (0, .ref (g 0)), (1, .int (ii v1)), (2, .long v2), (4, .long v4), (6, .int (ii v6))] ok d_Mo_between_4 (by rw [hN]; decide) rfl ?_
  exact jr_lv [2, 3, 4, 5, 6, 1, 0] rfl (B_6 fU v1 v2 v4 v6 0 0 S hs)

def q_Mo_count_15 (v1 : Int) (t0 : Int) (S : MS) : Option (Int × MS) := if w32 t0 ≤ 0 then if w32 v1 = 0 then some (S.m_seriesCount, MS.w_m_code S t0) else if w32 v1 = 1 then some (S.m_head, MS.w_m_code S t0) else if w32 v1 = 2 then some (S.m_parcels, MS.w_m_code S t0) else if w32 v1 = 3 then some (S.m_scars, MS.w_m_code S t0) else some (S.m_points, MS.w_m_code S t0) else some (0, MS.w_m_code S t0)

def q_Mo_count_10 (v1 : Int) (S : MS) : Option (Int × MS) := q_Mo_count_15 v1 1 S

def s_Mo_count (S : MS) (v1 : Int) : Option (Int × MS) := if w32 v1 < 0 then q_Mo_count_10 v1 S else if w32 v1 ≤ 4 then q_Mo_count_15 v1 0 S else q_Mo_count_10 v1 S
set_option maxHeartbeats 4000000 in
set_option maxRecDepth 100000 in
theorem c_Mo_count (l : Launch) (D : jd_T) (g : Nat → Nat) (S : MS) (v1 : Int) (r : Int) (S9 : MS) (hs : s_Mo_count S v1 = some (r, S9)) : jc_C l D y_Mo_count b_Mo_count 2 (some .int) { frames := 0, cells := 0, slots := 0, locals := 0 } [.ref (g 0), .int (ii v1)] (moL D g S) (fun _ : Unit => (.returned (some (.int (ii r))), True, (moL D g S9))) := by
  refine jc_of rfl (Nat.le_of_ble_eq_true rfl) ?_
  intro X hl hR hN ok hnm fin
  subst hl
  have B_15 : ∀ (v1 : Int) (t0 : Int) (S : MS), q_Mo_count_15 v1 t0 S = some (r, S9) → jw X 0 0 (moL D g S) [(0, .ref (g 0)), (1, .int (ii v1))] 15 [.int (ii t0), .ref (g 0)] := by
    intro v1 t0 S hs
    rw [q_Mo_count_15] at hs
    refine jr_put (moL D g (MS.w_m_code S t0)) ok 0 f_Mo_101 rfl rfl rfl (Nat.le_of_ble_eq_true rfl) rfl d_Mo_count_15 ?_
    refine jr_aload_n ok 0 d_Mo_count_18 rfl rfl ?_
    refine jr_get (v := .int (ii t0)) ok 0 f_Mo_101 rfl rfl d_Mo_count_19 ?_
    refine jr_wif_le 29 ok rfl d_Mo_count_22 (by decide) (fun c8 => ?_) (fun c8 => ?_)
    · replace hs := oq_pos c8 hs
      refine jr_iload_n ok 1 d_Mo_count_29 rfl rfl ?_
      refine jr_wif_ne 40 ok rfl d_Mo_count_30 (by decide) (fun c9 => ?_) (fun c9 => ?_)
      · replace hs := oq_neg c9 hs
        refine jr_iload_n ok 1 d_Mo_count_40 rfl rfl ?_
        refine jr_iconst ok d_Mo_count_41 ?_
        refine jr_wicmp_ne 52 ok rfl (show w32 1 = 1 by decide) d_Mo_count_42 (by decide) (fun c10 => ?_) (fun c10 => ?_)
        · replace hs := oq_neg c10 hs
          refine jr_iload_n ok 1 d_Mo_count_52 rfl rfl ?_
          refine jr_iconst ok d_Mo_count_53 ?_
          refine jr_wicmp_ne 64 ok rfl (show w32 2 = 2 by decide) d_Mo_count_54 (by decide) (fun c11 => ?_) (fun c11 => ?_)
          · replace hs := oq_neg c11 hs
            refine jr_iload_n ok 1 d_Mo_count_64 rfl rfl ?_
            refine jr_iconst ok d_Mo_count_65 ?_
            refine jr_wicmp_ne 76 ok rfl (show w32 3 = 3 by decide) d_Mo_count_66 (by decide) (fun c12 => ?_) (fun c12 => ?_)
            · replace hs := oq_neg c12 hs
              refine jr_aload_n ok 0 d_Mo_count_76 rfl rfl ?_
              refine jr_get (v := .int (ii S.m_points)) ok 0 f_Mo_152 rfl rfl d_Mo_count_77 ?_
              exact jm_iret (Lf := moL D g) ok fin hs d_Mo_count_80
            · replace hs := oq_pos c12 hs
              refine jr_aload_n ok 0 d_Mo_count_69 rfl rfl ?_
              refine jr_get (v := .int (ii S.m_scars)) ok 0 f_Mo_183 rfl rfl d_Mo_count_70 ?_
              refine jr_goto 80 ok d_Mo_count_73 (by decide) ?_
              exact jm_iret (Lf := moL D g) ok fin hs d_Mo_count_80
          · replace hs := oq_pos c11 hs
            refine jr_aload_n ok 0 d_Mo_count_57 rfl rfl ?_
            refine jr_get (v := .int (ii S.m_parcels)) ok 0 f_Mo_189 rfl rfl d_Mo_count_58 ?_
            refine jr_goto 80 ok d_Mo_count_61 (by decide) ?_
            exact jm_iret (Lf := moL D g) ok fin hs d_Mo_count_80
        · replace hs := oq_pos c10 hs
          refine jr_aload_n ok 0 d_Mo_count_45 rfl rfl ?_
          refine jr_get (v := .int (ii S.m_head)) ok 0 f_Mo_161 rfl rfl d_Mo_count_46 ?_
          refine jr_goto 80 ok d_Mo_count_49 (by decide) ?_
          exact jm_iret (Lf := moL D g) ok fin hs d_Mo_count_80
      · replace hs := oq_pos c9 hs
        refine jr_aload_n ok 0 d_Mo_count_33 rfl rfl ?_
        refine jr_get (v := .int (ii S.m_seriesCount)) ok 0 f_Mo_133 rfl rfl d_Mo_count_34 ?_
        refine jr_goto 80 ok d_Mo_count_37 (by decide) ?_
        exact jm_iret (Lf := moL D g) ok fin hs d_Mo_count_80
    · replace hs := oq_neg c8 hs
      refine jr_iconst ok d_Mo_count_25 ?_
      refine jr_goto 80 ok d_Mo_count_26 (by decide) ?_
      exact jm_iret (Lf := moL D g) ok fin hs d_Mo_count_80
  have B_10 : ∀ (v1 : Int) (S : MS), q_Mo_count_10 v1 S = some (r, S9) → jw X 0 0 (moL D g S) [(0, .ref (g 0)), (1, .int (ii v1))] 10 [.ref (g 0)] := by
    intro v1 S hs
    rw [q_Mo_count_10] at hs
    refine jr_iconst ok d_Mo_count_10 ?_
    refine jr_goto 15 ok d_Mo_count_11 (by decide) ?_
    exact jr_lv [0, 1] rfl (B_15 v1 1 S hs)
  show jw X 0 0 (moL D g S) [(0, .ref (g 0)), (1, .int (ii v1))] 0 []
  rw [s_Mo_count] at hs
  refine jr_aload_n ok 0 d_Mo_count_0 rfl rfl ?_
  refine jr_iload_n ok 1 d_Mo_count_1 rfl rfl ?_
  refine jr_wif_lt 10 ok rfl d_Mo_count_2 (by decide) (fun c13 => ?_) (fun c13 => ?_)
  · replace hs := oq_pos c13 hs
    exact jr_lv [0, 1] rfl (B_10 v1 S hs)
  · replace hs := oq_neg c13 hs
    refine jr_iload_n ok 1 d_Mo_count_5 rfl rfl ?_
    refine jr_iconst ok d_Mo_count_6 ?_
    refine jr_wicmp_le 14 ok rfl (show w32 4 = 4 by decide) d_Mo_count_7 (by decide) (fun c14 => ?_) (fun c14 => ?_)
    · replace hs := oq_pos c14 hs
      refine jr_iconst ok d_Mo_count_14 ?_
      exact jr_lv [0, 1] rfl (B_15 v1 0 S hs)
    · replace hs := oq_neg c14 hs
      exact jr_lv [0, 1] rfl (B_10 v1 S hs)

def s_Mo_isDigit (v0 : Int) : Option (Int) := if w32 v0 < 48 then some 0 else if 57 < w32 v0 then some 0 else some 1
set_option maxHeartbeats 4000000 in
set_option maxRecDepth 100000 in
theorem c_Mo_isDigit (l : Launch) (D : jd_T) (v0 : Int) (r : Int) (hs : s_Mo_isDigit v0 = some r) : jc_C l D y_Mo_isDigit b_Mo_isDigit 1 (some .boolean) { frames := 0, cells := 0, slots := 0, locals := 0 } [.int (ii v0)] [] (fun _ : Unit => (.returned (some (.int (ii r))), True, [])) := by
  refine jc_of rfl (Nat.le_of_ble_eq_true rfl) ?_
  intro X hl hR hN ok hnm fin
  subst hl
  show jw X 0 0 [] [(0, .int (ii v0))] 0 []
  rw [s_Mo_isDigit] at hs
  refine jr_iload_n ok 0 d_Mo_isDigit_0 rfl rfl ?_
  refine jr_bipush ok d_Mo_isDigit_1 (by decide +kernel) ?_
  refine jr_wicmp_lt 16 ok rfl (show w32 48 = 48 by decide) d_Mo_isDigit_3 (by decide) (fun c3 => ?_) (fun c3 => ?_)
  · replace hs := oq_pos c3 hs
    refine jr_iconst ok d_Mo_isDigit_16 ?_
    exact jm_zrets ok (by decide +kernel) fin hs d_Mo_isDigit_17
  · replace hs := oq_neg c3 hs
    refine jr_iload_n ok 0 d_Mo_isDigit_6 rfl rfl ?_
    refine jr_bipush ok d_Mo_isDigit_7 (by decide +kernel) ?_
    refine jr_wicmp_gt 16 ok rfl (show w32 57 = 57 by decide) d_Mo_isDigit_9 (by decide) (fun c4 => ?_) (fun c4 => ?_)
    · replace hs := oq_pos c4 hs
      refine jr_iconst ok d_Mo_isDigit_16 ?_
      exact jm_zrets ok (by decide +kernel) fin hs d_Mo_isDigit_17
    · replace hs := oq_neg c4 hs
      refine jr_iconst ok d_Mo_isDigit_12 ?_
      refine jr_goto 17 ok d_Mo_isDigit_13 (by decide) ?_
      exact jm_zrets ok (by decide +kernel) fin hs d_Mo_isDigit_17

def s_Mo_isStart (S : MS) (v1 : Int) (v2 : Int) (v3 : Int) : Option (Int × MS) := mb2 (s_Mo_at S S.m_from) (fun r7 S7 => if w32 r7 = w32 v1 then mb2 (s_Mo_at S7 (S7.m_from + 1)) (fun r9 S9 => if w32 r9 = w32 v2 then mb2 (s_Mo_at S9 (S9.m_from + 2)) (fun r11 S11 => if w32 r11 = w32 v3 then some (1, S11) else some (0, S11)) else some (0, S9)) else some (0, S7))
set_option maxHeartbeats 4000000 in
set_option maxRecDepth 100000 in
theorem c_Mo_isStart (l : Launch) (D : jd_T) (g : Nat → Nat) (S : MS) (v1 : Int) (v2 : Int) (v3 : Int) (r : Int) (S9 : MS) (hs : s_Mo_isStart S v1 v2 v3 = some (r, S9)) : jc_C l D y_Mo_isStart b_Mo_isStart 4 (some .boolean) { frames := 1, cells := 0, slots := 0, locals := 21 } [.ref (g 0), .int (ii v1), .int (ii v2), .int (ii v3)] (moL D g S) (fun _ : Unit => (.returned (some (.int (ii r))), True, (moL D g S9))) := by
  refine jc_of rfl (Nat.le_of_ble_eq_true rfl) ?_
  intro X hl hR hN ok hnm fin
  subst hl
  show jw X 0 0 (moL D g S) [(0, .ref (g 0)), (1, .int (ii v1)), (2, .int (ii v2)), (3, .int (ii v3))] 0 []
  rw [s_Mo_isStart] at hs
  refine jr_aload_n ok 0 d_Mo_isStart_0 rfl rfl ?_
  refine jr_aload_n ok 0 d_Mo_isStart_1 rfl rfl ?_
  refine jr_get (v := .int (ii S.m_from)) ok 0 f_Mo_195 rfl rfl d_Mo_isStart_2 ?_
  obtain ⟨r7, S7, hc7, hs⟩ := mb2_some hs
  refine jr_mV1 ok hR m_Mo_198 (c_Mo_at (jx_l X) D g S S.m_from r7 S7 hc7) rfl rfl rfl rfl (Nat.le_of_ble_eq_true rfl) ⟨Nat.le_of_ble_eq_true rfl, Nat.le_of_ble_eq_true rfl⟩ ⟨Nat.zero_le _, Nat.zero_le _⟩ d_Mo_isStart_5 ?_
  refine jr_iload_n ok 1 d_Mo_isStart_8 rfl rfl ?_
  refine jr_wicmp_ne 44 ok rfl rfl d_Mo_isStart_9 (by decide) (fun c8 => ?_) (fun c8 => ?_)
  · replace hs := oq_neg c8 hs
    refine jr_iconst ok d_Mo_isStart_44 ?_
    exact jm_zret (Lf := moL D g) ok (by decide +kernel) fin hs d_Mo_isStart_45
  · replace hs := oq_pos c8 hs
    refine jr_aload_n ok 0 d_Mo_isStart_12 rfl rfl ?_
    refine jr_aload_n ok 0 d_Mo_isStart_13 rfl rfl ?_
    refine jr_get (v := .int (ii S7.m_from)) ok 0 f_Mo_195 rfl rfl d_Mo_isStart_14 ?_
    refine jr_iconst ok d_Mo_isStart_17 ?_
    refine jr_iadd ok d_Mo_isStart_18 ?_
    obtain ⟨r9, S9, hc9, hs⟩ := mb2_some hs
    refine jr_mV1 ok hR m_Mo_198 (c_Mo_at (jx_l X) D g S7 (S7.m_from + 1) r9 S9 hc9) rfl rfl rfl rfl (Nat.le_of_ble_eq_true rfl) ⟨Nat.le_of_ble_eq_true rfl, Nat.le_of_ble_eq_true rfl⟩ ⟨Nat.zero_le _, Nat.zero_le _⟩ d_Mo_isStart_19 ?_
    refine jr_iload_n ok 2 d_Mo_isStart_22 rfl rfl ?_
    refine jr_wicmp_ne 44 ok rfl rfl d_Mo_isStart_23 (by decide) (fun c10 => ?_) (fun c10 => ?_)
    · replace hs := oq_neg c10 hs
      refine jr_iconst ok d_Mo_isStart_44 ?_
      exact jm_zret (Lf := moL D g) ok (by decide +kernel) fin hs d_Mo_isStart_45
    · replace hs := oq_pos c10 hs
      refine jr_aload_n ok 0 d_Mo_isStart_26 rfl rfl ?_
      refine jr_aload_n ok 0 d_Mo_isStart_27 rfl rfl ?_
      refine jr_get (v := .int (ii S9.m_from)) ok 0 f_Mo_195 rfl rfl d_Mo_isStart_28 ?_
      refine jr_iconst ok d_Mo_isStart_31 ?_
      refine jr_iadd ok d_Mo_isStart_32 ?_
      obtain ⟨r11, S11, hc11, hs⟩ := mb2_some hs
      refine jr_mV1 ok hR m_Mo_198 (c_Mo_at (jx_l X) D g S9 (S9.m_from + 2) r11 S11 hc11) rfl rfl rfl rfl (Nat.le_of_ble_eq_true rfl) ⟨Nat.le_of_ble_eq_true rfl, Nat.le_of_ble_eq_true rfl⟩ ⟨Nat.zero_le _, Nat.zero_le _⟩ d_Mo_isStart_33 ?_
      refine jr_iload_n ok 3 d_Mo_isStart_36 rfl rfl ?_
      refine jr_wicmp_ne 44 ok rfl rfl d_Mo_isStart_37 (by decide) (fun c12 => ?_) (fun c12 => ?_)
      · replace hs := oq_neg c12 hs
        refine jr_iconst ok d_Mo_isStart_44 ?_
        exact jm_zret (Lf := moL D g) ok (by decide +kernel) fin hs d_Mo_isStart_45
      · replace hs := oq_pos c12 hs
        refine jr_iconst ok d_Mo_isStart_40 ?_
        refine jr_goto 45 ok d_Mo_isStart_41 (by decide) ?_
        exact jm_zret (Lf := moL D g) ok (by decide +kernel) fin hs d_Mo_isStart_45

def q_Mo_matches_355 (k5 : Int → Int → Int → MS → Option (Int × MS)) (v1 : Int) (v3 : Int) (t0 : Int) (S : MS) : Option (Int × MS) := k5 v1 v3 t0 S

def q_Mo_matches_303 (k5 : Int → Int → Int → MS → Option (Int × MS)) (v1 : Int) (v3 : Int) (v8 : Int) (v11 : Int) (t0 : Int) (S : MS) : Option (Int × MS) := if w32 v8 = 0 then q_Mo_matches_355 k5 v1 v3 t0 S else if w32 v8 = 1 then if w32 t0 = 0 then q_Mo_matches_355 k5 v1 v3 1 S else q_Mo_matches_355 k5 v1 v3 0 S else if w32 v8 = 2 then q_Mo_matches_355 k5 v1 v3 v11 S else if w32 v11 = 0 then q_Mo_matches_355 k5 v1 v3 1 S else q_Mo_matches_355 k5 v1 v3 0 S

def q_Mo_matches_302 (k5 : Int → Int → Int → MS → Option (Int × MS)) (v1 : Int) (v3 : Int) (v8 : Int) (v11 : Int) (S : MS) : Option (Int × MS) := q_Mo_matches_303 k5 v1 v3 v8 v11 0 S

def q_Mo_matches_286 (k5 : Int → Int → Int → MS → Option (Int × MS)) (v1 : Int) (v3 : Int) (v7 : Int) (v8 : Int) (v10 : Int) (v11 : Int) (S : MS) : Option (Int × MS) := if w32 v11 = 0 then q_Mo_matches_302 k5 v1 v3 v8 v11 S else if w32 v7 = w32 v10 then q_Mo_matches_303 k5 v1 v3 v8 v11 1 S else q_Mo_matches_302 k5 v1 v3 v8 v11 S

def q_Mo_matches_278 (k5 : Int → Int → Int → MS → Option (Int × MS)) (k238 : Int → Int → Int → Int → Int → Int → Int → Int → Int → MS → Option (Int × MS)) (v1 : Int) (v3 : Int) (v6 : Int) (v7 : Int) (v8 : Int) (v9 : Int) (v10 : Int) (v12 : Int) (t0 : Int) (S : MS) : Option (Int × MS) := k238 v1 v3 v6 v7 v8 v9 v10 t0 (v12 + 1) S

def q_Mo_matches_238 (k5 : Int → Int → Int → MS → Option (Int × MS)) : Nat → Int → Int → Int → Int → Int → Int → Int → Int → Int → MS → Option (Int × MS)
  | 0, _, _, _, _, _, _, _, _, _, _ => none
  | n + 1, v1, v3, v6, v7, v8, v9, v10, v11, v12, S => if w32 v10 ≤ w32 v12 then q_Mo_matches_286 k5 v1 v3 v7 v8 v10 v11 S else if w32 v11 = 0 then q_Mo_matches_286 k5 v1 v3 v7 v8 v10 v11 S else if (0 : Int) ≤ (v6 + v12) ∧ (v6 + v12) < (78128 : Int) then if (0 : Int) ≤ (v9 + v12) ∧ (v9 + v12) < (65536 : Int) then if w32 (S.m_texts (v6 + v12)) = w32 (S.m_tape (v9 + v12)) then q_Mo_matches_278 k5 (q_Mo_matches_238 k5 n) v1 v3 v6 v7 v8 v9 v10 v12 1 S else q_Mo_matches_278 k5 (q_Mo_matches_238 k5 n) v1 v3 v6 v7 v8 v9 v10 v12 0 S else none else none

def q_Mo_matches_233 (k5 : Int → Int → Int → MS → Option (Int × MS)) (v1 : Int) (v3 : Int) (v6 : Int) (v7 : Int) (v8 : Int) (v9 : Int) (v10 : Int) (t0 : Int) (S : MS) : Option (Int × MS) := q_Mo_matches_238 k5 fU v1 v3 v6 v7 v8 v9 v10 t0 0 S

def q_Mo_matches_196 (k5 : Int → Int → Int → MS → Option (Int × MS)) : Nat → Int → Int → Int → Int → Int → Int → MS → Option (Int × MS)
  | 0, _, _, _, _, _, _, _ => none
  | n + 1, v1, v3, v6, v7, v8, v9, S => mb2 (s_Mo_at S v3) (fun r70 S70 => if w32 r70 = 34 then if w32 v7 < w32 (v3 - v9) then q_Mo_matches_233 k5 v1 (v3 + 1) v6 v7 v8 v9 (v3 - v9) 0 S70 else q_Mo_matches_233 k5 v1 (v3 + 1) v6 v7 v8 v9 (v3 - v9) 1 S70 else (q_Mo_matches_196 k5 n) v1 (v3 + 1) v6 v7 v8 v9 S70)

def q_Mo_matches_172 (k5 : Int → Int → Int → MS → Option (Int × MS)) : Nat → Int → Int → Int → Int → Int → MS → Option (Int × MS)
  | 0, _, _, _, _, _, _ => none
  | n + 1, v1, v3, v6, v7, v8, S => mb2 (s_Mo_at S v3) (fun r68 S68 => if w32 r68 = 32 then (q_Mo_matches_172 k5 n) v1 (v3 + 1) v6 v7 v8 S68 else q_Mo_matches_196 k5 fU v1 (v3 + 1) v6 v7 v8 (v3 + 1) S68)

def q_Mo_matches_170 (k5 : Int → Int → Int → MS → Option (Int × MS)) (v1 : Int) (v6 : Int) (v7 : Int) (v8 : Int) (t0 : Int) (t1 : Int) (S : MS) : Option (Int × MS) := q_Mo_matches_172 k5 fU v1 (t1 + t0) v6 v7 v8 S

def q_Mo_matches_157 (k5 : Int → Int → Int → MS → Option (Int × MS)) (v1 : Int) (v3 : Int) (v6 : Int) (v7 : Int) (t0 : Int) (S : MS) : Option (Int × MS) := if w32 t0 = 0 then q_Mo_matches_170 k5 v1 v6 v7 t0 1 v3 S else q_Mo_matches_170 k5 v1 v6 v7 t0 2 v3 S

def q_Mo_matches_96 (k5 : Int → Int → Int → MS → Option (Int × MS)) : Nat → Int → Int → Int → Int → MS → Option (Int × MS)
  | 0, _, _, _, _, _ => none
  | n + 1, v1, v3, v6, v7, S => mb2 (s_Mo_at S v3) (fun r59 S59 => if w32 r59 = 32 then (q_Mo_matches_96 k5 n) v1 (v3 + 1) v6 v7 S59 else mb2 (s_Mo_at S59 v3) (fun r61 S61 => if w32 r61 = 61 then q_Mo_matches_157 k5 v1 v3 v6 v7 0 S61 else mb2 (s_Mo_at S61 (v3 + 1)) (fun r63 S63 => if w32 r63 = 61 then mb2 (s_Mo_at S63 v3) (fun r65 S65 => if w32 r65 = 33 then q_Mo_matches_157 k5 v1 v3 v6 v7 1 S65 else q_Mo_matches_157 k5 v1 v3 v6 v7 2 S65) else q_Mo_matches_157 k5 v1 v3 v6 v7 3 S63)))

def q_Mo_matches_71 (k5 : Int → Int → Int → MS → Option (Int × MS)) (k49 : Int → Int → Int → MS → Option (Int × MS)) (v1 : Int) (v3 : Int) (v5 : Int) (S : MS) : Option (Int × MS) := k49 v1 (v3 + 1) v5 S

def q_Mo_matches_49 (k5 : Int → Int → Int → MS → Option (Int × MS)) : Nat → Int → Int → Int → MS → Option (Int × MS)
  | 0, _, _, _, _ => none
  | n + 1, v1, v3, v5, S => mb2 (s_Mo_at S v3) (fun r52 S52 => mb1 (s_Mo_isLetter r52) (fun r53 => if w32 r53 = 0 then mb2 (s_Mo_at S52 v3) (fun r55 S55 => mb1 (s_Mo_isDigit r55) (fun r56 => if w32 r56 = 0 then mb2 (s_Mo_valueOf S55 v1 v5 (v3 - v5)) (fun r58 S58 => q_Mo_matches_96 k5 fU v1 v3 r58 S58.m_valueLength S58) else q_Mo_matches_71 k5 (q_Mo_matches_49 k5 n) v1 v3 v5 S55)) else q_Mo_matches_71 k5 (q_Mo_matches_49 k5 n) v1 v3 v5 S52))

def q_Mo_matches_40 (k5 : Int → Int → Int → MS → Option (Int × MS)) (v1 : Int) (v3 : Int) (v4 : Int) (S : MS) : Option (Int × MS) := k5 v1 (v3 + 1) v4 S

def q_Mo_matches_5 : Nat → Int → Int → Int → MS → Option (Int × MS)
  | 0, _, _, _, _ => none
  | n + 1, v1, v3, v4, S => if w32 v4 = 0 then if v4 = 0 ∨ v4 = 1 then some (v4, S) else none else mb2 (s_Mo_at S v3) (fun r45 S45 => if w32 r45 = 125 then if v4 = 0 ∨ v4 = 1 then some (v4, S45) else none else mb2 (s_Mo_at S45 v3) (fun r48 S48 => if w32 r48 = 32 then q_Mo_matches_40 (q_Mo_matches_5 n) v1 v3 v4 S48 else mb2 (s_Mo_at S48 v3) (fun r50 S50 => if w32 r50 = 44 then q_Mo_matches_40 (q_Mo_matches_5 n) v1 v3 v4 S50 else q_Mo_matches_49 (q_Mo_matches_5 n) fU v1 v3 v3 S50)))

def s_Mo_matches (S : MS) (v1 : Int) (v2 : Int) : Option (Int × MS) := q_Mo_matches_5 fU v1 v2 1 S
set_option maxHeartbeats 4000000 in
set_option maxRecDepth 100000 in
theorem c_Mo_matches (l : Launch) (D : jd_T) (g : Nat → Nat) (S : MS) (v1 : Int) (v2 : Int) (r : Int) (S9 : MS) (hs : s_Mo_matches S v1 v2 = some (r, S9)) : jc_C l D y_Mo_matches b_Mo_matches 13 (some .boolean) { frames := 1, cells := 0, slots := 0, locals := 29 } [.ref (g 0), .int (ii v1), .int (ii v2)] (moL D g S) (fun _ : Unit => (.returned (some (.int (ii r))), True, (moL D g S9))) := by
  refine jc_of rfl (Nat.le_of_ble_eq_true rfl) ?_
  intro X hl hR hN ok hnm fin
  subst hl
  have B_5 : ∀ (n5 : Nat), ∀ (v1 : Int) (v3 : Int) (v4 : Int) (S : MS), q_Mo_matches_5 n5 v1 v3 v4 S = some (r, S9) → jw X 0 0 (moL D g S) [(0, .ref (g 0)), (1, .int (ii v1)), (3, .int (ii v3)), (4, .int (ii v4))] 5 [] := by
    intro n5
    induction n5 with
    | zero =>
      intro v1 v3 v4 S hs
      rw [q_Mo_matches_5] at hs; cases hs
    | succ n5 ih5 =>
      have B_355 : ∀ (v1 : Int) (v3 : Int) (t0 : Int) (S : MS), q_Mo_matches_355 (q_Mo_matches_5 n5) v1 v3 t0 S = some (r, S9) → jw X 0 0 (moL D g S) [(0, .ref (g 0)), (1, .int (ii v1)), (3, .int (ii v3))] 355 [.int (ii t0)] := by
        intro v1 v3 t0 S hs
        rw [q_Mo_matches_355] at hs
        refine jr_istore [(4, .int (ii t0)), (0, .ref (g 0)), (1, .int (ii v1)), (3, .int (ii v3))] ok d_Mo_matches_355 (by rw [hN]; decide) rfl ?_
        refine jr_goto 5 ok d_Mo_matches_357 (by decide) ?_
        exact jr_lv [1, 2, 3, 0] rfl (ih5 v1 v3 t0 S hs)
      have B_303 : ∀ (v1 : Int) (v3 : Int) (v8 : Int) (v11 : Int) (t0 : Int) (S : MS), q_Mo_matches_303 (q_Mo_matches_5 n5) v1 v3 v8 v11 t0 S = some (r, S9) → jw X 0 0 (moL D g S) [(0, .ref (g 0)), (1, .int (ii v1)), (3, .int (ii v3)), (8, .int (ii v8)), (11, .int (ii v11))] 303 [.int (ii t0)] := by
        intro v1 v3 v8 v11 t0 S hs
        rw [q_Mo_matches_303] at hs
        refine jr_istore [(12, .int (ii t0)), (0, .ref (g 0)), (1, .int (ii v1)), (3, .int (ii v3)), (8, .int (ii v8)), (11, .int (ii v11))] ok d_Mo_matches_303 (by rw [hN]; decide) rfl ?_
        refine jr_iload ok 4 d_Mo_matches_305 rfl ?_
        refine jr_wif_ne 315 ok rfl d_Mo_matches_307 (by decide) (fun c80 => ?_) (fun c80 => ?_)
        · replace hs := oq_neg c80 hs
          refine jr_iload ok 4 d_Mo_matches_315 rfl ?_
          refine jr_iconst ok d_Mo_matches_317 ?_
          refine jr_wicmp_ne 334 ok rfl (show w32 1 = 1 by decide) d_Mo_matches_318 (by decide) (fun c81 => ?_) (fun c81 => ?_)
          · replace hs := oq_neg c81 hs
            refine jr_iload ok 4 d_Mo_matches_334 rfl ?_
            refine jr_iconst ok d_Mo_matches_336 ?_
            refine jr_wicmp_ne 345 ok rfl (show w32 2 = 2 by decide) d_Mo_matches_337 (by decide) (fun c82 => ?_) (fun c82 => ?_)
            · replace hs := oq_neg c82 hs
              refine jr_iload ok 5 d_Mo_matches_345 rfl ?_
              refine jr_wif_ne 354 ok rfl d_Mo_matches_347 (by decide) (fun c83 => ?_) (fun c83 => ?_)
              · replace hs := oq_neg c83 hs
                refine jr_iconst ok d_Mo_matches_354 ?_
                exact jr_lv [1, 2, 3] rfl (B_355 v1 v3 0 S hs)
              · replace hs := oq_pos c83 hs
                refine jr_iconst ok d_Mo_matches_350 ?_
                refine jr_goto 355 ok d_Mo_matches_351 (by decide) ?_
                exact jr_lv [1, 2, 3] rfl (B_355 v1 v3 1 S hs)
            · replace hs := oq_pos c82 hs
              refine jr_iload ok 5 d_Mo_matches_340 rfl ?_
              refine jr_goto 355 ok d_Mo_matches_342 (by decide) ?_
              exact jr_lv [1, 2, 3] rfl (B_355 v1 v3 v11 S hs)
          · replace hs := oq_pos c81 hs
            refine jr_iload ok 0 d_Mo_matches_321 rfl ?_
            refine jr_wif_ne 330 ok rfl d_Mo_matches_323 (by decide) (fun c84 => ?_) (fun c84 => ?_)
            · replace hs := oq_neg c84 hs
              refine jr_iconst ok d_Mo_matches_330 ?_
              refine jr_goto 355 ok d_Mo_matches_331 (by decide) ?_
              exact jr_lv [1, 2, 3] rfl (B_355 v1 v3 0 S hs)
            · replace hs := oq_pos c84 hs
              refine jr_iconst ok d_Mo_matches_326 ?_
              refine jr_goto 355 ok d_Mo_matches_327 (by decide) ?_
              exact jr_lv [1, 2, 3] rfl (B_355 v1 v3 1 S hs)
        · replace hs := oq_pos c80 hs
          refine jr_iload ok 0 d_Mo_matches_310 rfl ?_
          refine jr_goto 355 ok d_Mo_matches_312 (by decide) ?_
          exact jr_lv [1, 2, 3] rfl (B_355 v1 v3 t0 S hs)
      have B_302 : ∀ (v1 : Int) (v3 : Int) (v8 : Int) (v11 : Int) (S : MS), q_Mo_matches_302 (q_Mo_matches_5 n5) v1 v3 v8 v11 S = some (r, S9) → jw X 0 0 (moL D g S) [(0, .ref (g 0)), (1, .int (ii v1)), (3, .int (ii v3)), (8, .int (ii v8)), (11, .int (ii v11))] 302 [] := by
        intro v1 v3 v8 v11 S hs
        rw [q_Mo_matches_302] at hs
        refine jr_iconst ok d_Mo_matches_302 ?_
        exact jr_lv [0, 1, 2, 3, 4] rfl (B_303 v1 v3 v8 v11 0 S hs)
      have B_286 : ∀ (v1 : Int) (v3 : Int) (v7 : Int) (v8 : Int) (v10 : Int) (v11 : Int) (S : MS), q_Mo_matches_286 (q_Mo_matches_5 n5) v1 v3 v7 v8 v10 v11 S = some (r, S9) → jw X 0 0 (moL D g S) [(0, .ref (g 0)), (1, .int (ii v1)), (3, .int (ii v3)), (7, .int (ii v7)), (8, .int (ii v8)), (10, .int (ii v10)), (11, .int (ii v11))] 286 [] := by
        intro v1 v3 v7 v8 v10 v11 S hs
        rw [q_Mo_matches_286] at hs
        refine jr_iload ok 6 d_Mo_matches_286 rfl ?_
        refine jr_wif_eq 302 ok rfl d_Mo_matches_288 (by decide) (fun c78 => ?_) (fun c78 => ?_)
        · replace hs := oq_pos c78 hs
          exact jr_lv [0, 1, 2, 4, 6] rfl (B_302 v1 v3 v8 v11 S hs)
        · replace hs := oq_neg c78 hs
          refine jr_iload ok 3 d_Mo_matches_291 rfl ?_
          refine jr_iload ok 5 d_Mo_matches_293 rfl ?_
          refine jr_wicmp_ne 302 ok rfl rfl d_Mo_matches_295 (by decide) (fun c79 => ?_) (fun c79 => ?_)
          · replace hs := oq_neg c79 hs
            exact jr_lv [0, 1, 2, 4, 6] rfl (B_302 v1 v3 v8 v11 S hs)
          · replace hs := oq_pos c79 hs
            refine jr_iconst ok d_Mo_matches_298 ?_
            refine jr_goto 303 ok d_Mo_matches_299 (by decide) ?_
            exact jr_lv [0, 1, 2, 4, 6] rfl (B_303 v1 v3 v8 v11 1 S hs)
      have B_238 : ∀ (n238 : Nat), ∀ (v1 : Int) (v3 : Int) (v6 : Int) (v7 : Int) (v8 : Int) (v9 : Int) (v10 : Int) (v11 : Int) (v12 : Int) (S : MS), q_Mo_matches_238 (q_Mo_matches_5 n5) n238 v1 v3 v6 v7 v8 v9 v10 v11 v12 S = some (r, S9) → jw X 0 0 (moL D g S) [(0, .ref (g 0)), (1, .int (ii v1)), (3, .int (ii v3)), (6, .int (ii v6)), (7, .int (ii v7)), (8, .int (ii v8)), (9, .int (ii v9)), (10, .int (ii v10)), (11, .int (ii v11)), (12, .int (ii v12))] 238 [] := by
        intro n238
        induction n238 with
        | zero =>
          intro v1 v3 v6 v7 v8 v9 v10 v11 v12 S hs
          rw [q_Mo_matches_238] at hs; cases hs
        | succ n238 ih238 =>
          have B_278 : ∀ (v1 : Int) (v3 : Int) (v6 : Int) (v7 : Int) (v8 : Int) (v9 : Int) (v10 : Int) (v12 : Int) (t0 : Int) (S : MS), q_Mo_matches_278 (q_Mo_matches_5 n5) (q_Mo_matches_238 (q_Mo_matches_5 n5) n238) v1 v3 v6 v7 v8 v9 v10 v12 t0 S = some (r, S9) → jw X 0 0 (moL D g S) [(0, .ref (g 0)), (1, .int (ii v1)), (3, .int (ii v3)), (6, .int (ii v6)), (7, .int (ii v7)), (8, .int (ii v8)), (9, .int (ii v9)), (10, .int (ii v10)), (12, .int (ii v12))] 278 [.int (ii t0)] := by
            intro v1 v3 v6 v7 v8 v9 v10 v12 t0 S hs
            rw [q_Mo_matches_278] at hs
            refine jr_istore [(11, .int (ii t0)), (0, .ref (g 0)), (1, .int (ii v1)), (3, .int (ii v3)), (6, .int (ii v6)), (7, .int (ii v7)), (8, .int (ii v8)), (9, .int (ii v9)), (10, .int (ii v10)), (12, .int (ii v12))] ok d_Mo_matches_278 (by rw [hN]; decide) rfl ?_
            refine jr_iinc [(12, .int (ii (v12 + 1))), (11, .int (ii t0)), (0, .ref (g 0)), (1, .int (ii v1)), (3, .int (ii v3)), (6, .int (ii v6)), (7, .int (ii v7)), (8, .int (ii v8)), (9, .int (ii v9)), (10, .int (ii v10))] 9 ok d_Mo_matches_280 rfl (by rw [hN]; decide) rfl ?_
            refine jr_goto 238 ok d_Mo_matches_283 (by decide) ?_
            exact jr_lv [2, 3, 4, 5, 6, 7, 8, 9, 1, 0] rfl (ih238 v1 v3 v6 v7 v8 v9 v10 t0 (v12 + 1) S hs)
          intro v1 v3 v6 v7 v8 v9 v10 v11 v12 S hs
          rw [q_Mo_matches_238] at hs
          refine jr_iload ok 9 d_Mo_matches_238 rfl ?_
          refine jr_iload ok 7 d_Mo_matches_240 rfl ?_
          refine jr_wicmp_ge 286 ok rfl rfl d_Mo_matches_242 (by decide) (fun c73 => ?_) (fun c73 => ?_)
          · replace hs := oq_pos c73 hs
            exact jr_lv [0, 1, 2, 4, 5, 7, 8] rfl (B_286 v1 v3 v7 v8 v10 v11 S hs)
          · replace hs := oq_neg c73 hs
            refine jr_iload ok 8 d_Mo_matches_245 rfl ?_
            refine jr_wif_eq 286 ok rfl d_Mo_matches_247 (by decide) (fun c74 => ?_) (fun c74 => ?_)
            · replace hs := oq_pos c74 hs
              exact jr_lv [0, 1, 2, 4, 5, 7, 8] rfl (B_286 v1 v3 v7 v8 v10 v11 S hs)
            · replace hs := oq_neg c74 hs
              refine jr_aload_n ok 0 d_Mo_matches_250 rfl rfl ?_
              refine jr_get (v := .ref (g 2)) ok 0 f_Mo_15 rfl rfl d_Mo_matches_251 ?_
              refine jr_iload ok 3 d_Mo_matches_254 rfl ?_
              refine jr_iload ok 9 d_Mo_matches_256 rfl ?_
              refine jr_iadd ok d_Mo_matches_258 ?_
              obtain ⟨hb75, hs⟩ := oq_if hs
              refine jr_bald ok 2 rfl rfl hb75.1 hb75.2 d_Mo_matches_259 ?_
              refine jr_aload_n ok 0 d_Mo_matches_260 rfl rfl ?_
              refine jr_get (v := .ref (g 1)) ok 0 f_Mo_8 rfl rfl d_Mo_matches_261 ?_
              refine jr_iload ok 6 d_Mo_matches_264 rfl ?_
              refine jr_iload ok 9 d_Mo_matches_266 rfl ?_
              refine jr_iadd ok d_Mo_matches_268 ?_
              obtain ⟨hb76, hs⟩ := oq_if hs
              refine jr_bald ok 1 rfl rfl hb76.1 hb76.2 d_Mo_matches_269 ?_
              refine jr_wicmp_ne 277 ok rfl rfl d_Mo_matches_270 (by decide) (fun c77 => ?_) (fun c77 => ?_)
              · replace hs := oq_neg c77 hs
                refine jr_iconst ok d_Mo_matches_277 ?_
                exact jr_lv [0, 1, 2, 3, 4, 5, 6, 7, 9] rfl (B_278 v1 v3 v6 v7 v8 v9 v10 v12 0 S hs)
              · replace hs := oq_pos c77 hs
                refine jr_iconst ok d_Mo_matches_273 ?_
                refine jr_goto 278 ok d_Mo_matches_274 (by decide) ?_
                exact jr_lv [0, 1, 2, 3, 4, 5, 6, 7, 9] rfl (B_278 v1 v3 v6 v7 v8 v9 v10 v12 1 S hs)
      have B_233 : ∀ (v1 : Int) (v3 : Int) (v6 : Int) (v7 : Int) (v8 : Int) (v9 : Int) (v10 : Int) (t0 : Int) (S : MS), q_Mo_matches_233 (q_Mo_matches_5 n5) v1 v3 v6 v7 v8 v9 v10 t0 S = some (r, S9) → jw X 0 0 (moL D g S) [(0, .ref (g 0)), (1, .int (ii v1)), (3, .int (ii v3)), (6, .int (ii v6)), (7, .int (ii v7)), (8, .int (ii v8)), (9, .int (ii v9)), (10, .int (ii v10))] 233 [.int (ii t0)] := by
        intro v1 v3 v6 v7 v8 v9 v10 t0 S hs
        rw [q_Mo_matches_233] at hs
        refine jr_istore [(11, .int (ii t0)), (0, .ref (g 0)), (1, .int (ii v1)), (3, .int (ii v3)), (6, .int (ii v6)), (7, .int (ii v7)), (8, .int (ii v8)), (9, .int (ii v9)), (10, .int (ii v10))] ok d_Mo_matches_233 (by rw [hN]; decide) rfl ?_
        refine jr_iconst ok d_Mo_matches_235 ?_
        refine jr_istore [(12, .int (ii 0)), (11, .int (ii t0)), (0, .ref (g 0)), (1, .int (ii v1)), (3, .int (ii v3)), (6, .int (ii v6)), (7, .int (ii v7)), (8, .int (ii v8)), (9, .int (ii v9)), (10, .int (ii v10))] ok d_Mo_matches_236 (by rw [hN]; decide) rfl ?_
        exact jr_lv [2, 3, 4, 5, 6, 7, 8, 9, 1, 0] rfl (B_238 fU v1 v3 v6 v7 v8 v9 v10 t0 0 S hs)
      have B_196 : ∀ (n196 : Nat), ∀ (v1 : Int) (v3 : Int) (v6 : Int) (v7 : Int) (v8 : Int) (v9 : Int) (S : MS), q_Mo_matches_196 (q_Mo_matches_5 n5) n196 v1 v3 v6 v7 v8 v9 S = some (r, S9) → jw X 0 0 (moL D g S) [(0, .ref (g 0)), (1, .int (ii v1)), (3, .int (ii v3)), (6, .int (ii v6)), (7, .int (ii v7)), (8, .int (ii v8)), (9, .int (ii v9))] 196 [] := by
        intro n196
        induction n196 with
        | zero =>
          intro v1 v3 v6 v7 v8 v9 S hs
          rw [q_Mo_matches_196] at hs; cases hs
        | succ n196 ih196 =>
          intro v1 v3 v6 v7 v8 v9 S hs
          rw [q_Mo_matches_196] at hs
          refine jr_aload_n ok 0 d_Mo_matches_196 rfl rfl ?_
          refine jr_iload_n ok 2 d_Mo_matches_197 rfl rfl ?_
          obtain ⟨r70, S70, hc70, hs⟩ := mb2_some hs
          refine jr_mV1 ok hR m_Mo_198 (c_Mo_at (jx_l X) D g S v3 r70 S70 hc70) rfl rfl rfl rfl (Nat.le_of_ble_eq_true rfl) ⟨Nat.le_of_ble_eq_true rfl, Nat.le_of_ble_eq_true rfl⟩ ⟨Nat.zero_le _, Nat.zero_le _⟩ d_Mo_matches_198 ?_
          refine jr_bipush ok d_Mo_matches_201 (by decide +kernel) ?_
          refine jr_wicmp_eq 212 ok rfl (show w32 34 = 34 by decide) d_Mo_matches_203 (by decide) (fun c71 => ?_) (fun c71 => ?_)
          · replace hs := oq_pos c71 hs
            refine jr_iload_n ok 2 d_Mo_matches_212 rfl rfl ?_
            refine jr_iload ok 6 d_Mo_matches_213 rfl ?_
            refine jr_isub ok d_Mo_matches_215 ?_
            refine jr_istore [(10, .int (ii (v3 - v9))), (0, .ref (g 0)), (1, .int (ii v1)), (3, .int (ii v3)), (6, .int (ii v6)), (7, .int (ii v7)), (8, .int (ii v8)), (9, .int (ii v9))] ok d_Mo_matches_216 (by rw [hN]; decide) rfl ?_
            refine jr_iinc [(3, .int (ii (v3 + 1))), (10, .int (ii (v3 - v9))), (0, .ref (g 0)), (1, .int (ii v1)), (6, .int (ii v6)), (7, .int (ii v7)), (8, .int (ii v8)), (9, .int (ii v9))] 3 ok d_Mo_matches_218 rfl (by rw [hN]; decide) rfl ?_
            refine jr_iload ok 5 d_Mo_matches_221 rfl ?_
            refine jr_iload ok 1 d_Mo_matches_223 rfl ?_
            refine jr_wicmp_lt 232 ok rfl rfl d_Mo_matches_225 (by decide) (fun c72 => ?_) (fun c72 => ?_)
            · replace hs := oq_pos c72 hs
              refine jr_iconst ok d_Mo_matches_232 ?_
              exact jr_lv [2, 3, 0, 4, 5, 6, 7, 1] rfl (B_233 v1 (v3 + 1) v6 v7 v8 v9 (v3 - v9) 0 S70 hs)
            · replace hs := oq_neg c72 hs
              refine jr_iconst ok d_Mo_matches_228 ?_
              refine jr_goto 233 ok d_Mo_matches_229 (by decide) ?_
              exact jr_lv [2, 3, 0, 4, 5, 6, 7, 1] rfl (B_233 v1 (v3 + 1) v6 v7 v8 v9 (v3 - v9) 1 S70 hs)
          · replace hs := oq_neg c71 hs
            refine jr_iinc [(3, .int (ii (v3 + 1))), (0, .ref (g 0)), (1, .int (ii v1)), (6, .int (ii v6)), (7, .int (ii v7)), (8, .int (ii v8)), (9, .int (ii v9))] 2 ok d_Mo_matches_206 rfl (by rw [hN]; decide) rfl ?_
            refine jr_goto 196 ok d_Mo_matches_209 (by decide) ?_
            exact jr_lv [1, 2, 0, 3, 4, 5, 6] rfl (ih196 v1 (v3 + 1) v6 v7 v8 v9 S70 hs)
      have B_172 : ∀ (n172 : Nat), ∀ (v1 : Int) (v3 : Int) (v6 : Int) (v7 : Int) (v8 : Int) (S : MS), q_Mo_matches_172 (q_Mo_matches_5 n5) n172 v1 v3 v6 v7 v8 S = some (r, S9) → jw X 0 0 (moL D g S) [(0, .ref (g 0)), (1, .int (ii v1)), (3, .int (ii v3)), (6, .int (ii v6)), (7, .int (ii v7)), (8, .int (ii v8))] 172 [] := by
        intro n172
        induction n172 with
        | zero =>
          intro v1 v3 v6 v7 v8 S hs
          rw [q_Mo_matches_172] at hs; cases hs
        | succ n172 ih172 =>
          intro v1 v3 v6 v7 v8 S hs
          rw [q_Mo_matches_172] at hs
          refine jr_aload_n ok 0 d_Mo_matches_172 rfl rfl ?_
          refine jr_iload_n ok 2 d_Mo_matches_173 rfl rfl ?_
          obtain ⟨r68, S68, hc68, hs⟩ := mb2_some hs
          refine jr_mV1 ok hR m_Mo_198 (c_Mo_at (jx_l X) D g S v3 r68 S68 hc68) rfl rfl rfl rfl (Nat.le_of_ble_eq_true rfl) ⟨Nat.le_of_ble_eq_true rfl, Nat.le_of_ble_eq_true rfl⟩ ⟨Nat.zero_le _, Nat.zero_le _⟩ d_Mo_matches_174 ?_
          refine jr_bipush ok d_Mo_matches_177 (by decide +kernel) ?_
          refine jr_wicmp_ne 188 ok rfl (show w32 32 = 32 by decide) d_Mo_matches_179 (by decide) (fun c69 => ?_) (fun c69 => ?_)
          · replace hs := oq_neg c69 hs
            refine jr_iload_n ok 2 d_Mo_matches_188 rfl rfl ?_
            refine jr_iconst ok d_Mo_matches_189 ?_
            refine jr_iadd ok d_Mo_matches_190 ?_
            refine jr_istore [(9, .int (ii (v3 + 1))), (0, .ref (g 0)), (1, .int (ii v1)), (3, .int (ii v3)), (6, .int (ii v6)), (7, .int (ii v7)), (8, .int (ii v8))] ok d_Mo_matches_191 (by rw [hN]; decide) rfl ?_
            refine jr_iinc [(3, .int (ii (v3 + 1))), (9, .int (ii (v3 + 1))), (0, .ref (g 0)), (1, .int (ii v1)), (6, .int (ii v6)), (7, .int (ii v7)), (8, .int (ii v8))] 3 ok d_Mo_matches_193 rfl (by rw [hN]; decide) rfl ?_
            exact jr_lv [2, 3, 0, 4, 5, 6, 1] rfl (B_196 fU v1 (v3 + 1) v6 v7 v8 (v3 + 1) S68 hs)
          · replace hs := oq_pos c69 hs
            refine jr_iinc [(3, .int (ii (v3 + 1))), (0, .ref (g 0)), (1, .int (ii v1)), (6, .int (ii v6)), (7, .int (ii v7)), (8, .int (ii v8))] 2 ok d_Mo_matches_182 rfl (by rw [hN]; decide) rfl ?_
            refine jr_goto 172 ok d_Mo_matches_185 (by decide) ?_
            exact jr_lv [1, 2, 0, 3, 4, 5] rfl (ih172 v1 (v3 + 1) v6 v7 v8 S68 hs)
      have B_170 : ∀ (v1 : Int) (v6 : Int) (v7 : Int) (v8 : Int) (t0 : Int) (t1 : Int) (S : MS), q_Mo_matches_170 (q_Mo_matches_5 n5) v1 v6 v7 v8 t0 t1 S = some (r, S9) → jw X 0 0 (moL D g S) [(0, .ref (g 0)), (1, .int (ii v1)), (6, .int (ii v6)), (7, .int (ii v7)), (8, .int (ii v8))] 170 [.int (ii t0), .int (ii t1)] := by
        intro v1 v6 v7 v8 t0 t1 S hs
        rw [q_Mo_matches_170] at hs
        refine jr_iadd ok d_Mo_matches_170 ?_
        refine jr_istore_n [(3, .int (ii (t1 + t0))), (0, .ref (g 0)), (1, .int (ii v1)), (6, .int (ii v6)), (7, .int (ii v7)), (8, .int (ii v8))] ok d_Mo_matches_171 rfl (by rw [hN]; decide) rfl ?_
        exact jr_lv [1, 2, 0, 3, 4, 5] rfl (B_172 fU v1 (t1 + t0) v6 v7 v8 S hs)
      have B_157 : ∀ (v1 : Int) (v3 : Int) (v6 : Int) (v7 : Int) (t0 : Int) (S : MS), q_Mo_matches_157 (q_Mo_matches_5 n5) v1 v3 v6 v7 t0 S = some (r, S9) → jw X 0 0 (moL D g S) [(0, .ref (g 0)), (1, .int (ii v1)), (3, .int (ii v3)), (6, .int (ii v6)), (7, .int (ii v7))] 157 [.int (ii t0)] := by
        intro v1 v3 v6 v7 t0 S hs
        rw [q_Mo_matches_157] at hs
        refine jr_istore [(8, .int (ii t0)), (0, .ref (g 0)), (1, .int (ii v1)), (3, .int (ii v3)), (6, .int (ii v6)), (7, .int (ii v7))] ok d_Mo_matches_157 (by rw [hN]; decide) rfl ?_
        refine jr_iload_n ok 3 d_Mo_matches_159 rfl rfl ?_
        refine jr_iload ok 0 d_Mo_matches_160 rfl ?_
        refine jr_wif_ne 169 ok rfl d_Mo_matches_162 (by decide) (fun c67 => ?_) (fun c67 => ?_)
        · replace hs := oq_neg c67 hs
          refine jr_iconst ok d_Mo_matches_169 ?_
          exact jr_lv [1, 2, 4, 5, 0] rfl (B_170 v1 v6 v7 t0 2 v3 S hs)
        · replace hs := oq_pos c67 hs
          refine jr_iconst ok d_Mo_matches_165 ?_
          refine jr_goto 170 ok d_Mo_matches_166 (by decide) ?_
          exact jr_lv [1, 2, 4, 5, 0] rfl (B_170 v1 v6 v7 t0 1 v3 S hs)
      have B_96 : ∀ (n96 : Nat), ∀ (v1 : Int) (v3 : Int) (v6 : Int) (v7 : Int) (S : MS), q_Mo_matches_96 (q_Mo_matches_5 n5) n96 v1 v3 v6 v7 S = some (r, S9) → jw X 0 0 (moL D g S) [(0, .ref (g 0)), (1, .int (ii v1)), (3, .int (ii v3)), (6, .int (ii v6)), (7, .int (ii v7))] 96 [] := by
        intro n96
        induction n96 with
        | zero =>
          intro v1 v3 v6 v7 S hs
          rw [q_Mo_matches_96] at hs; cases hs
        | succ n96 ih96 =>
          intro v1 v3 v6 v7 S hs
          rw [q_Mo_matches_96] at hs
          refine jr_aload_n ok 0 d_Mo_matches_96 rfl rfl ?_
          refine jr_iload_n ok 2 d_Mo_matches_97 rfl rfl ?_
          obtain ⟨r59, S59, hc59, hs⟩ := mb2_some hs
          refine jr_mV1 ok hR m_Mo_198 (c_Mo_at (jx_l X) D g S v3 r59 S59 hc59) rfl rfl rfl rfl (Nat.le_of_ble_eq_true rfl) ⟨Nat.le_of_ble_eq_true rfl, Nat.le_of_ble_eq_true rfl⟩ ⟨Nat.zero_le _, Nat.zero_le _⟩ d_Mo_matches_98 ?_
          refine jr_bipush ok d_Mo_matches_101 (by decide +kernel) ?_
          refine jr_wicmp_ne 112 ok rfl (show w32 32 = 32 by decide) d_Mo_matches_103 (by decide) (fun c60 => ?_) (fun c60 => ?_)
          · replace hs := oq_neg c60 hs
            refine jr_aload_n ok 0 d_Mo_matches_112 rfl rfl ?_
            refine jr_iload_n ok 2 d_Mo_matches_113 rfl rfl ?_
            obtain ⟨r61, S61, hc61, hs⟩ := mb2_some hs
            refine jr_mV1 ok hR m_Mo_198 (c_Mo_at (jx_l X) D g S59 v3 r61 S61 hc61) rfl rfl rfl rfl (Nat.le_of_ble_eq_true rfl) ⟨Nat.le_of_ble_eq_true rfl, Nat.le_of_ble_eq_true rfl⟩ ⟨Nat.zero_le _, Nat.zero_le _⟩ d_Mo_matches_114 ?_
            refine jr_bipush ok d_Mo_matches_117 (by decide +kernel) ?_
            refine jr_wicmp_ne 126 ok rfl (show w32 61 = 61 by decide) d_Mo_matches_119 (by decide) (fun c62 => ?_) (fun c62 => ?_)
            · replace hs := oq_neg c62 hs
              refine jr_aload_n ok 0 d_Mo_matches_126 rfl rfl ?_
              refine jr_iload_n ok 2 d_Mo_matches_127 rfl rfl ?_
              refine jr_iconst ok d_Mo_matches_128 ?_
              refine jr_iadd ok d_Mo_matches_129 ?_
              obtain ⟨r63, S63, hc63, hs⟩ := mb2_some hs
              refine jr_mV1 ok hR m_Mo_198 (c_Mo_at (jx_l X) D g S61 (v3 + 1) r63 S63 hc63) rfl rfl rfl rfl (Nat.le_of_ble_eq_true rfl) ⟨Nat.le_of_ble_eq_true rfl, Nat.le_of_ble_eq_true rfl⟩ ⟨Nat.zero_le _, Nat.zero_le _⟩ d_Mo_matches_130 ?_
              refine jr_bipush ok d_Mo_matches_133 (by decide +kernel) ?_
              refine jr_wicmp_ne 156 ok rfl (show w32 61 = 61 by decide) d_Mo_matches_135 (by decide) (fun c64 => ?_) (fun c64 => ?_)
              · replace hs := oq_neg c64 hs
                refine jr_iconst ok d_Mo_matches_156 ?_
                exact jr_lv [0, 1, 2, 3, 4] rfl (B_157 v1 v3 v6 v7 3 S63 hs)
              · replace hs := oq_pos c64 hs
                refine jr_aload_n ok 0 d_Mo_matches_138 rfl rfl ?_
                refine jr_iload_n ok 2 d_Mo_matches_139 rfl rfl ?_
                obtain ⟨r65, S65, hc65, hs⟩ := mb2_some hs
                refine jr_mV1 ok hR m_Mo_198 (c_Mo_at (jx_l X) D g S63 v3 r65 S65 hc65) rfl rfl rfl rfl (Nat.le_of_ble_eq_true rfl) ⟨Nat.le_of_ble_eq_true rfl, Nat.le_of_ble_eq_true rfl⟩ ⟨Nat.zero_le _, Nat.zero_le _⟩ d_Mo_matches_140 ?_
                refine jr_bipush ok d_Mo_matches_143 (by decide +kernel) ?_
                refine jr_wicmp_ne 152 ok rfl (show w32 33 = 33 by decide) d_Mo_matches_145 (by decide) (fun c66 => ?_) (fun c66 => ?_)
                · replace hs := oq_neg c66 hs
                  refine jr_iconst ok d_Mo_matches_152 ?_
                  refine jr_goto 157 ok d_Mo_matches_153 (by decide) ?_
                  exact jr_lv [0, 1, 2, 3, 4] rfl (B_157 v1 v3 v6 v7 2 S65 hs)
                · replace hs := oq_pos c66 hs
                  refine jr_iconst ok d_Mo_matches_148 ?_
                  refine jr_goto 157 ok d_Mo_matches_149 (by decide) ?_
                  exact jr_lv [0, 1, 2, 3, 4] rfl (B_157 v1 v3 v6 v7 1 S65 hs)
            · replace hs := oq_pos c62 hs
              refine jr_iconst ok d_Mo_matches_122 ?_
              refine jr_goto 157 ok d_Mo_matches_123 (by decide) ?_
              exact jr_lv [0, 1, 2, 3, 4] rfl (B_157 v1 v3 v6 v7 0 S61 hs)
          · replace hs := oq_pos c60 hs
            refine jr_iinc [(3, .int (ii (v3 + 1))), (0, .ref (g 0)), (1, .int (ii v1)), (6, .int (ii v6)), (7, .int (ii v7))] 2 ok d_Mo_matches_106 rfl (by rw [hN]; decide) rfl ?_
            refine jr_goto 96 ok d_Mo_matches_109 (by decide) ?_
            exact jr_lv [1, 2, 0, 3, 4] rfl (ih96 v1 (v3 + 1) v6 v7 S59 hs)
      have B_49 : ∀ (n49 : Nat), ∀ (v1 : Int) (v3 : Int) (v5 : Int) (S : MS), q_Mo_matches_49 (q_Mo_matches_5 n5) n49 v1 v3 v5 S = some (r, S9) → jw X 0 0 (moL D g S) [(0, .ref (g 0)), (1, .int (ii v1)), (3, .int (ii v3)), (5, .int (ii v5))] 49 [] := by
        intro n49
        induction n49 with
        | zero =>
          intro v1 v3 v5 S hs
          rw [q_Mo_matches_49] at hs; cases hs
        | succ n49 ih49 =>
          have B_71 : ∀ (v1 : Int) (v3 : Int) (v5 : Int) (S : MS), q_Mo_matches_71 (q_Mo_matches_5 n5) (q_Mo_matches_49 (q_Mo_matches_5 n5) n49) v1 v3 v5 S = some (r, S9) → jw X 0 0 (moL D g S) [(0, .ref (g 0)), (1, .int (ii v1)), (3, .int (ii v3)), (5, .int (ii v5))] 71 [] := by
            intro v1 v3 v5 S hs
            rw [q_Mo_matches_71] at hs
            refine jr_iinc [(3, .int (ii (v3 + 1))), (0, .ref (g 0)), (1, .int (ii v1)), (5, .int (ii v5))] 2 ok d_Mo_matches_71 rfl (by rw [hN]; decide) rfl ?_
            refine jr_goto 49 ok d_Mo_matches_74 (by decide) ?_
            exact jr_lv [1, 2, 0, 3] rfl (ih49 v1 (v3 + 1) v5 S hs)
          intro v1 v3 v5 S hs
          rw [q_Mo_matches_49] at hs
          refine jr_aload_n ok 0 d_Mo_matches_49 rfl rfl ?_
          refine jr_iload_n ok 2 d_Mo_matches_50 rfl rfl ?_
          obtain ⟨r52, S52, hc52, hs⟩ := mb2_some hs
          refine jr_mV1 ok hR m_Mo_198 (c_Mo_at (jx_l X) D g S v3 r52 S52 hc52) rfl rfl rfl rfl (Nat.le_of_ble_eq_true rfl) ⟨Nat.le_of_ble_eq_true rfl, Nat.le_of_ble_eq_true rfl⟩ ⟨Nat.zero_le _, Nat.zero_le _⟩ d_Mo_matches_51 ?_
          obtain ⟨r53, hc53, hs⟩ := mb1_some hs
          refine jr_mS1 ok hR m_Mo_210 (c_Mo_isLetter (jx_l X) D r52 r53 hc53) rfl rfl (Nat.le_of_ble_eq_true rfl) ⟨Nat.le_of_ble_eq_true rfl, Nat.le_of_ble_eq_true rfl⟩ ⟨Nat.zero_le _, Nat.zero_le _⟩ d_Mo_matches_54 ?_
          refine jr_wif_ne 71 ok rfl d_Mo_matches_57 (by decide) (fun c54 => ?_) (fun c54 => ?_)
          · replace hs := oq_neg c54 hs
            exact jr_lv [0, 1, 2, 3] rfl (B_71 v1 v3 v5 S52 hs)
          · replace hs := oq_pos c54 hs
            refine jr_aload_n ok 0 d_Mo_matches_60 rfl rfl ?_
            refine jr_iload_n ok 2 d_Mo_matches_61 rfl rfl ?_
            obtain ⟨r55, S55, hc55, hs⟩ := mb2_some hs
            refine jr_mV1 ok hR m_Mo_198 (c_Mo_at (jx_l X) D g S52 v3 r55 S55 hc55) rfl rfl rfl rfl (Nat.le_of_ble_eq_true rfl) ⟨Nat.le_of_ble_eq_true rfl, Nat.le_of_ble_eq_true rfl⟩ ⟨Nat.zero_le _, Nat.zero_le _⟩ d_Mo_matches_62 ?_
            obtain ⟨r56, hc56, hs⟩ := mb1_some hs
            refine jr_mS1 ok hR m_Mo_204 (c_Mo_isDigit (jx_l X) D r55 r56 hc56) rfl rfl (Nat.le_of_ble_eq_true rfl) ⟨Nat.le_of_ble_eq_true rfl, Nat.le_of_ble_eq_true rfl⟩ ⟨Nat.zero_le _, Nat.zero_le _⟩ d_Mo_matches_65 ?_
            refine jr_wif_eq 77 ok rfl d_Mo_matches_68 (by decide) (fun c57 => ?_) (fun c57 => ?_)
            · replace hs := oq_pos c57 hs
              refine jr_aload_n ok 0 d_Mo_matches_77 rfl rfl ?_
              refine jr_iload_n ok 1 d_Mo_matches_78 rfl rfl ?_
              refine jr_iload ok 3 d_Mo_matches_79 rfl ?_
              refine jr_iload_n ok 2 d_Mo_matches_81 rfl rfl ?_
              refine jr_iload ok 3 d_Mo_matches_82 rfl ?_
              refine jr_isub ok d_Mo_matches_84 ?_
              obtain ⟨r58, S58, hc58, hs⟩ := mb2_some hs
              refine jr_mV1 ok hR m_Mo_240 (c_Mo_valueOf (jx_l X) D g S55 v1 v5 (v3 - v5) r58 S58 hc58) rfl rfl rfl rfl (Nat.le_of_ble_eq_true rfl) ⟨Nat.le_of_ble_eq_true rfl, Nat.le_of_ble_eq_true rfl⟩ ⟨Nat.zero_le _, Nat.zero_le _⟩ d_Mo_matches_85 ?_
              refine jr_istore [(6, .int (ii r58)), (0, .ref (g 0)), (1, .int (ii v1)), (3, .int (ii v3)), (5, .int (ii v5))] ok d_Mo_matches_88 (by rw [hN]; decide) rfl ?_
              refine jr_aload_n ok 1 d_Mo_matches_90 rfl rfl ?_
              refine jr_get (v := .int (ii S58.m_valueLength)) ok 0 f_Mo_237 rfl rfl d_Mo_matches_91 ?_
              refine jr_istore [(7, .int (ii S58.m_valueLength)), (6, .int (ii r58)), (0, .ref (g 0)), (1, .int (ii v1)), (3, .int (ii v3)), (5, .int (ii v5))] ok d_Mo_matches_94 (by rw [hN]; decide) rfl ?_
              exact jr_lv [2, 3, 4, 1, 0] rfl (B_96 fU v1 v3 r58 S58.m_valueLength S58 hs)
            · replace hs := oq_neg c57 hs
              exact jr_lv [0, 1, 2, 3] rfl (B_71 v1 v3 v5 S55 hs)
      have B_40 : ∀ (v1 : Int) (v3 : Int) (v4 : Int) (S : MS), q_Mo_matches_40 (q_Mo_matches_5 n5) v1 v3 v4 S = some (r, S9) → jw X 0 0 (moL D g S) [(0, .ref (g 0)), (1, .int (ii v1)), (3, .int (ii v3)), (4, .int (ii v4))] 40 [] := by
        intro v1 v3 v4 S hs
        rw [q_Mo_matches_40] at hs
        refine jr_iinc [(3, .int (ii (v3 + 1))), (0, .ref (g 0)), (1, .int (ii v1)), (4, .int (ii v4))] 2 ok d_Mo_matches_40 rfl (by rw [hN]; decide) rfl ?_
        refine jr_goto 5 ok d_Mo_matches_43 (by decide) ?_
        exact jr_lv [1, 2, 0, 3] rfl (ih5 v1 (v3 + 1) v4 S hs)
      intro v1 v3 v4 S hs
      rw [q_Mo_matches_5] at hs
      refine jr_iload ok 3 d_Mo_matches_5 rfl ?_
      refine jr_wif_eq 360 ok rfl d_Mo_matches_7 (by decide) (fun c43 => ?_) (fun c43 => ?_)
      · replace hs := oq_pos c43 hs
        refine jr_iload ok 3 d_Mo_matches_360 rfl ?_
        obtain ⟨hb44, hs⟩ := oq_if hs
        exact jm_zret (Lf := moL D g) ok (nz_b hb44) fin hs d_Mo_matches_362
      · replace hs := oq_neg c43 hs
        refine jr_aload_n ok 0 d_Mo_matches_10 rfl rfl ?_
        refine jr_iload_n ok 2 d_Mo_matches_11 rfl rfl ?_
        obtain ⟨r45, S45, hc45, hs⟩ := mb2_some hs
        refine jr_mV1 ok hR m_Mo_198 (c_Mo_at (jx_l X) D g S v3 r45 S45 hc45) rfl rfl rfl rfl (Nat.le_of_ble_eq_true rfl) ⟨Nat.le_of_ble_eq_true rfl, Nat.le_of_ble_eq_true rfl⟩ ⟨Nat.zero_le _, Nat.zero_le _⟩ d_Mo_matches_12 ?_
        refine jr_bipush ok d_Mo_matches_15 (by decide +kernel) ?_
        refine jr_wicmp_eq 360 ok rfl (show w32 125 = 125 by decide) d_Mo_matches_17 (by decide) (fun c46 => ?_) (fun c46 => ?_)
        · replace hs := oq_pos c46 hs
          refine jr_iload ok 3 d_Mo_matches_360 rfl ?_
          obtain ⟨hb47, hs⟩ := oq_if hs
          exact jm_zret (Lf := moL D g) ok (nz_b hb47) fin hs d_Mo_matches_362
        · replace hs := oq_neg c46 hs
          refine jr_aload_n ok 0 d_Mo_matches_20 rfl rfl ?_
          refine jr_iload_n ok 2 d_Mo_matches_21 rfl rfl ?_
          obtain ⟨r48, S48, hc48, hs⟩ := mb2_some hs
          refine jr_mV1 ok hR m_Mo_198 (c_Mo_at (jx_l X) D g S45 v3 r48 S48 hc48) rfl rfl rfl rfl (Nat.le_of_ble_eq_true rfl) ⟨Nat.le_of_ble_eq_true rfl, Nat.le_of_ble_eq_true rfl⟩ ⟨Nat.zero_le _, Nat.zero_le _⟩ d_Mo_matches_22 ?_
          refine jr_bipush ok d_Mo_matches_25 (by decide +kernel) ?_
          refine jr_wicmp_eq 40 ok rfl (show w32 32 = 32 by decide) d_Mo_matches_27 (by decide) (fun c49 => ?_) (fun c49 => ?_)
          · replace hs := oq_pos c49 hs
            exact jr_lv [0, 1, 2, 3] rfl (B_40 v1 v3 v4 S48 hs)
          · replace hs := oq_neg c49 hs
            refine jr_aload_n ok 0 d_Mo_matches_30 rfl rfl ?_
            refine jr_iload_n ok 2 d_Mo_matches_31 rfl rfl ?_
            obtain ⟨r50, S50, hc50, hs⟩ := mb2_some hs
            refine jr_mV1 ok hR m_Mo_198 (c_Mo_at (jx_l X) D g S48 v3 r50 S50 hc50) rfl rfl rfl rfl (Nat.le_of_ble_eq_true rfl) ⟨Nat.le_of_ble_eq_true rfl, Nat.le_of_ble_eq_true rfl⟩ ⟨Nat.zero_le _, Nat.zero_le _⟩ d_Mo_matches_32 ?_
            refine jr_bipush ok d_Mo_matches_35 (by decide +kernel) ?_
            refine jr_wicmp_ne 46 ok rfl (show w32 44 = 44 by decide) d_Mo_matches_37 (by decide) (fun c51 => ?_) (fun c51 => ?_)
            · replace hs := oq_neg c51 hs
              refine jr_iload_n ok 2 d_Mo_matches_46 rfl rfl ?_
              refine jr_istore [(5, .int (ii v3)), (0, .ref (g 0)), (1, .int (ii v1)), (3, .int (ii v3)), (4, .int (ii v4))] ok d_Mo_matches_47 (by rw [hN]; decide) rfl ?_
              exact jr_lv [1, 2, 3, 0] rfl (B_49 fU v1 v3 v3 S50 hs)
            · replace hs := oq_pos c51 hs
              exact jr_lv [0, 1, 2, 3] rfl (B_40 v1 v3 v4 S50 hs)
  show jw X 0 0 (moL D g S) [(0, .ref (g 0)), (1, .int (ii v1)), (2, .int (ii v2))] 0 []
  rw [s_Mo_matches] at hs
  refine jr_iload_n ok 2 d_Mo_matches_0 rfl rfl ?_
  refine jr_istore_n [(3, .int (ii v2)), (0, .ref (g 0)), (1, .int (ii v1)), (2, .int (ii v2))] ok d_Mo_matches_1 rfl (by rw [hN]; decide) rfl ?_
  refine jr_iconst ok d_Mo_matches_2 ?_
  refine jr_istore [(4, .int (ii 1)), (3, .int (ii v2)), (0, .ref (g 0)), (1, .int (ii v1)), (2, .int (ii v2))] ok d_Mo_matches_3 (by rw [hN]; decide) rfl ?_
  exact jr_lv [2, 3, 1, 0] rfl (B_5 fU v1 v2 1 S hs)

def q_Mo_number_36 : Nat → Int → MS → Option (Unit × MS)
  | 0, _, _ => none
  | n + 1, v1, S => if w32 S.m_windows ≤ w32 v1 then if (0 : Int) ≤ ((S.m_pile + 1) - 1) ∧ ((S.m_pile + 1) - 1) < (21 : Int) then if (0 : Int) ≤ (S.m_pile + 1) ∧ (S.m_pile + 1) < (21 : Int) then some ((), MS.w_m_starts (MS.w_m_pile S (S.m_pile + 1)) (aU S.m_starts (S.m_pile + 1) ((S.m_starts ((S.m_pile + 1) - 1)) + S.m_windows))) else none else none else mb2 (s_Mo_cellAt S S.m_pile 0 v1) (fun r14 S14 => if (0 : Int) ≤ r14 ∧ r14 < (327680 : Int) then mb2 (s_Mo_cellAt (MS.w_m_isCell S14 (aU S14.m_isCell r14 1)) S14.m_pile 0 v1) (fun r16 S16 => if (0 : Int) ≤ r16 ∧ r16 < (327680 : Int) then (q_Mo_number_36 n) (v1 + 1) (MS.w_m_cells S16 (aU S16.m_cells r16 S16.m_amount)) else none) else none)

def s_Mo_number (S : MS)  : Option (Unit × MS) := if (0 : Int) ≤ S.m_pile ∧ S.m_pile < (20 : Int) then if (0 : Int) ≤ S.m_pile ∧ S.m_pile < (20 : Int) then if (0 : Int) ≤ (256 * S.m_pile) ∧ (256 * S.m_pile) < (5120 : Int) then q_Mo_number_36 fU 0 (MS.w_m_rowSeries (MS.w_m_tableRows (MS.w_m_tableNames S (aU S.m_tableNames S.m_pile 0)) (aU S.m_tableRows S.m_pile 1)) (aU S.m_rowSeries (256 * S.m_pile) 0)) else none else none else none
set_option maxHeartbeats 4000000 in
set_option maxRecDepth 100000 in
theorem c_Mo_number (l : Launch) (D : jd_T) (g : Nat → Nat) (S : MS)  (r : Unit) (S9 : MS) (hs : s_Mo_number S  = some (r, S9)) : jc_C l D y_Mo_number b_Mo_number 2 none { frames := 1, cells := 0, slots := 0, locals := 23 } [.ref (g 0)] (moL D g S) (fun _ : Unit => (.returned (none), True, (moL D g S9))) := by
  refine jc_of rfl (Nat.le_of_ble_eq_true rfl) ?_
  intro X hl hR hN ok hnm fin
  subst hl
  have B_36 : ∀ (n36 : Nat), ∀ (v1 : Int) (S : MS), q_Mo_number_36 n36 v1 S = some (r, S9) → jw X 0 0 (moL D g S) [(0, .ref (g 0)), (1, .int (ii v1))] 36 [] := by
    intro n36
    induction n36 with
    | zero =>
      intro v1 S hs
      rw [q_Mo_number_36] at hs; cases hs
    | succ n36 ih36 =>
      intro v1 S hs
      rw [q_Mo_number_36] at hs
      refine jr_iload_n ok 1 d_Mo_number_36 rfl rfl ?_
      refine jr_aload_n ok 0 d_Mo_number_37 rfl rfl ?_
      refine jr_get (v := .int (ii S.m_windows)) ok 0 f_Mo_234 rfl rfl d_Mo_number_38 ?_
      refine jr_wicmp_ge 85 ok rfl rfl d_Mo_number_41 (by decide) (fun c11 => ?_) (fun c11 => ?_)
      · replace hs := oq_pos c11 hs
        refine jr_aload_n ok 0 d_Mo_number_85 rfl rfl ?_
        refine jr_dup rfl ok d_Mo_number_86 ?_
        refine jr_get (v := .int (ii S.m_pile)) ok 0 f_Mo_253 rfl rfl d_Mo_number_87 ?_
        refine jr_iconst ok d_Mo_number_90 ?_
        refine jr_iadd ok d_Mo_number_91 ?_
        refine jr_put (moL D g (MS.w_m_pile S (S.m_pile + 1))) ok 0 f_Mo_253 rfl rfl rfl (Nat.le_of_ble_eq_true rfl) rfl d_Mo_number_92 ?_
        refine jr_aload_n ok 0 d_Mo_number_95 rfl rfl ?_
        refine jr_get (v := .ref (g 17)) ok 0 f_Mo_64 rfl rfl d_Mo_number_96 ?_
        refine jr_aload_n ok 0 d_Mo_number_99 rfl rfl ?_
        refine jr_get (v := .int (ii (S.m_pile + 1))) ok 0 f_Mo_253 rfl rfl d_Mo_number_100 ?_
        refine jr_aload_n ok 0 d_Mo_number_103 rfl rfl ?_
        refine jr_get (v := .ref (g 17)) ok 0 f_Mo_64 rfl rfl d_Mo_number_104 ?_
        refine jr_aload_n ok 0 d_Mo_number_107 rfl rfl ?_
        refine jr_get (v := .int (ii (S.m_pile + 1))) ok 0 f_Mo_253 rfl rfl d_Mo_number_108 ?_
        refine jr_iconst ok d_Mo_number_111 ?_
        refine jr_isub ok d_Mo_number_112 ?_
        obtain ⟨hb12, hs⟩ := oq_if hs
        refine jr_iald ok 17 rfl rfl hb12.1 hb12.2 d_Mo_number_113 ?_
        show jw X 0 0 (moL D g (MS.w_m_pile S (S.m_pile + 1))) [(0, .ref (g 0)), (1, .int (ii v1))] 114 [.int (ii (S.m_starts ((S.m_pile + 1) - 1))), .int (ii (S.m_pile + 1)), .ref (g 17)]
        refine jr_aload_n ok 0 d_Mo_number_114 rfl rfl ?_
        refine jr_get (v := .int (ii S.m_windows)) ok 0 f_Mo_234 rfl rfl d_Mo_number_115 ?_
        refine jr_iadd ok d_Mo_number_118 ?_
        obtain ⟨hb13, hs⟩ := oq_if hs
        refine jr_iast (moL D g (MS.w_m_starts (MS.w_m_pile S (S.m_pile + 1)) (aU S.m_starts (S.m_pile + 1) ((S.m_starts ((S.m_pile + 1) - 1)) + S.m_windows)))) ok 17 rfl rfl hb13.1 hb13.2  rfl d_Mo_number_119 ?_
        exact jm_vret (Lf := moL D g) ok fin hs d_Mo_number_120
      · replace hs := oq_neg c11 hs
        refine jr_aload_n ok 0 d_Mo_number_44 rfl rfl ?_
        refine jr_get (v := .ref (g 16)) ok 0 f_Mo_60 rfl rfl d_Mo_number_45 ?_
        refine jr_aload_n ok 0 d_Mo_number_48 rfl rfl ?_
        refine jr_aload_n ok 0 d_Mo_number_49 rfl rfl ?_
        refine jr_get (v := .int (ii S.m_pile)) ok 0 f_Mo_253 rfl rfl d_Mo_number_50 ?_
        refine jr_iconst ok d_Mo_number_53 ?_
        refine jr_iload_n ok 1 d_Mo_number_54 rfl rfl ?_
        obtain ⟨r14, S14, hc14, hs⟩ := mb2_some hs
        refine jr_mV1 ok hR m_Mo_250 (c_Mo_cellAt (jx_l X) D g S S.m_pile 0 v1 r14 S14 hc14) rfl rfl rfl rfl (Nat.le_of_ble_eq_true rfl) ⟨Nat.le_of_ble_eq_true rfl, Nat.le_of_ble_eq_true rfl⟩ ⟨Nat.zero_le _, Nat.zero_le _⟩ d_Mo_number_55 ?_
        refine jr_iconst ok d_Mo_number_58 ?_
        obtain ⟨hb15, hs⟩ := oq_if hs
        refine jr_zast (moL D g (MS.w_m_isCell S14 (aU S14.m_isCell r14 1))) ok 16 rfl rfl hb15.1 hb15.2 (by decide +kernel) rfl d_Mo_number_59 ?_
        refine jr_aload_n ok 0 d_Mo_number_60 rfl rfl ?_
        refine jr_get (v := .ref (g 15)) ok 0 f_Mo_57 rfl rfl d_Mo_number_61 ?_
        refine jr_aload_n ok 0 d_Mo_number_64 rfl rfl ?_
        refine jr_aload_n ok 0 d_Mo_number_65 rfl rfl ?_
        refine jr_get (v := .int (ii S14.m_pile)) ok 0 f_Mo_253 rfl rfl d_Mo_number_66 ?_
        refine jr_iconst ok d_Mo_number_69 ?_
        refine jr_iload_n ok 1 d_Mo_number_70 rfl rfl ?_
        obtain ⟨r16, S16, hc16, hs⟩ := mb2_some hs
        refine jr_mV1 ok hR m_Mo_250 (c_Mo_cellAt (jx_l X) D g (MS.w_m_isCell S14 (aU S14.m_isCell r14 1)) S14.m_pile 0 v1 r16 S16 hc16) rfl rfl rfl rfl (Nat.le_of_ble_eq_true rfl) ⟨Nat.le_of_ble_eq_true rfl, Nat.le_of_ble_eq_true rfl⟩ ⟨Nat.zero_le _, Nat.zero_le _⟩ d_Mo_number_71 ?_
        refine jr_aload_n ok 0 d_Mo_number_74 rfl rfl ?_
        refine jr_get (v := .long S16.m_amount) ok 0 f_Mo_216 rfl rfl d_Mo_number_75 ?_
        obtain ⟨hb17, hs⟩ := oq_if hs
        refine jr_last (moL D g (MS.w_m_cells S16 (aU S16.m_cells r16 S16.m_amount))) ok 15 rfl rfl hb17.1 hb17.2  rfl d_Mo_number_78 ?_
        refine jr_iinc [(1, .int (ii (v1 + 1))), (0, .ref (g 0))] 1 ok d_Mo_number_79 rfl (by rw [hN]; decide) rfl ?_
        refine jr_goto 36 ok d_Mo_number_82 (by decide) ?_
        exact jr_lv [1, 0] rfl (ih36 (v1 + 1) (MS.w_m_cells S16 (aU S16.m_cells r16 S16.m_amount)) hs)
  show jw X 0 0 (moL D g S) [(0, .ref (g 0))] 0 []
  rw [s_Mo_number] at hs
  refine jr_aload_n ok 0 d_Mo_number_0 rfl rfl ?_
  refine jr_get (v := .ref (g 10)) ok 0 f_Mo_41 rfl rfl d_Mo_number_1 ?_
  refine jr_aload_n ok 0 d_Mo_number_4 rfl rfl ?_
  refine jr_get (v := .int (ii S.m_pile)) ok 0 f_Mo_253 rfl rfl d_Mo_number_5 ?_
  refine jr_iconst ok d_Mo_number_8 ?_
  obtain ⟨hb18, hs⟩ := oq_if hs
  refine jr_iast (moL D g (MS.w_m_tableNames S (aU S.m_tableNames S.m_pile 0))) ok 10 rfl rfl hb18.1 hb18.2  rfl d_Mo_number_9 ?_
  refine jr_aload_n ok 0 d_Mo_number_10 rfl rfl ?_
  refine jr_get (v := .ref (g 13)) ok 0 f_Mo_50 rfl rfl d_Mo_number_11 ?_
  refine jr_aload_n ok 0 d_Mo_number_14 rfl rfl ?_
  refine jr_get (v := .int (ii S.m_pile)) ok 0 f_Mo_253 rfl rfl d_Mo_number_15 ?_
  refine jr_iconst ok d_Mo_number_18 ?_
  obtain ⟨hb19, hs⟩ := oq_if hs
  refine jr_iast (moL D g (MS.w_m_tableRows (MS.w_m_tableNames S (aU S.m_tableNames S.m_pile 0)) (aU S.m_tableRows S.m_pile 1))) ok 13 rfl rfl hb19.1 hb19.2  rfl d_Mo_number_19 ?_
  refine jr_aload_n ok 0 d_Mo_number_20 rfl rfl ?_
  refine jr_get (v := .ref (g 14)) ok 0 f_Mo_53 rfl rfl d_Mo_number_21 ?_
  refine jr_sipush ok d_Mo_number_24 (by decide +kernel) ?_
  refine jr_aload_n ok 0 d_Mo_number_27 rfl rfl ?_
  refine jr_get (v := .int (ii S.m_pile)) ok 0 f_Mo_253 rfl rfl d_Mo_number_28 ?_
  refine jr_imul ok d_Mo_number_31 ?_
  refine jr_iconst ok d_Mo_number_32 ?_
  obtain ⟨hb20, hs⟩ := oq_if hs
  refine jr_iast (moL D g (MS.w_m_rowSeries (MS.w_m_tableRows (MS.w_m_tableNames S (aU S.m_tableNames S.m_pile 0)) (aU S.m_tableRows S.m_pile 1)) (aU S.m_rowSeries (256 * S.m_pile) 0))) ok 14 rfl rfl hb20.1 hb20.2  rfl d_Mo_number_33 ?_
  refine jr_iconst ok d_Mo_number_34 ?_
  refine jr_istore_n [(1, .int (ii 0)), (0, .ref (g 0))] ok d_Mo_number_35 rfl (by rw [hN]; decide) rfl ?_
  exact jr_lv [1, 0] rfl (B_36 fU 0 (MS.w_m_rowSeries (MS.w_m_tableRows (MS.w_m_tableNames S (aU S.m_tableNames S.m_pile 0)) (aU S.m_tableRows S.m_pile 1)) (aU S.m_rowSeries (256 * S.m_pile) 0)) hs)

def q_Mo_cell_26 (v1 : Int) (v2 : Int) (t0 : Int) (S : MS) : Option (Int64 × MS) := if w32 t0 = 0 then if (0 : Int) ≤ ((64 * v1) + v2) ∧ ((64 * v1) + v2) < (16384 : Int) then if w32 (S.m_isShown ((64 * v1) + v2)) = 0 then some (ll 0, MS.w_m_code S t0) else if (0 : Int) ≤ ((64 * v1) + v2) ∧ ((64 * v1) + v2) < (16384 : Int) then some (S.m_shown ((64 * v1) + v2), MS.w_m_code S t0) else none else none else some (ll 0, MS.w_m_code S t0)

def q_Mo_cell_25 (v1 : Int) (v2 : Int) (S : MS) : Option (Int64 × MS) := q_Mo_cell_26 v1 v2 1 S

def s_Mo_cell (S : MS) (v1 : Int) (v2 : Int) : Option (Int64 × MS) := mb2 (s_Mo_isRow S v1) (fun r13 S13 => if w32 r13 = 0 then q_Mo_cell_25 v1 v2 S13 else if w32 v2 < 0 then q_Mo_cell_25 v1 v2 S13 else if w32 S13.m_shownWindows ≤ w32 v2 then q_Mo_cell_25 v1 v2 S13 else q_Mo_cell_26 v1 v2 0 S13)
set_option maxHeartbeats 4000000 in
set_option maxRecDepth 100000 in
theorem c_Mo_cell (l : Launch) (D : jd_T) (g : Nat → Nat) (S : MS) (v1 : Int) (v2 : Int) (r : Int64) (S9 : MS) (hs : s_Mo_cell S v1 v2 = some (r, S9)) : jc_C l D y_Mo_cell b_Mo_cell 3 (some .long) { frames := 1, cells := 0, slots := 0, locals := 21 } [.ref (g 0), .int (ii v1), .int (ii v2)] (moL D g S) (fun _ : Unit => (.returned (some (.long r)), True, (moL D g S9))) := by
  refine jc_of rfl (Nat.le_of_ble_eq_true rfl) ?_
  intro X hl hR hN ok hnm fin
  subst hl
  have B_26 : ∀ (v1 : Int) (v2 : Int) (t0 : Int) (S : MS), q_Mo_cell_26 v1 v2 t0 S = some (r, S9) → jw X 0 0 (moL D g S) [(0, .ref (g 0)), (1, .int (ii v1)), (2, .int (ii v2))] 26 [.int (ii t0), .ref (g 0)] := by
    intro v1 v2 t0 S hs
    rw [q_Mo_cell_26] at hs
    refine jr_put (moL D g (MS.w_m_code S t0)) ok 0 f_Mo_101 rfl rfl rfl (Nat.le_of_ble_eq_true rfl) rfl d_Mo_cell_26 ?_
    refine jr_aload_n ok 0 d_Mo_cell_29 rfl rfl ?_
    refine jr_get (v := .int (ii t0)) ok 0 f_Mo_101 rfl rfl d_Mo_cell_30 ?_
    refine jr_wif_ne 64 ok rfl d_Mo_cell_33 (by decide) (fun c9 => ?_) (fun c9 => ?_)
    · replace hs := oq_neg c9 hs
      refine jr_lconst (z := 0) ok d_Mo_cell_64 (by decide +kernel) ?_
      exact jm_lret (Lf := moL D g) ok fin hs d_Mo_cell_65
    · replace hs := oq_pos c9 hs
      refine jr_aload_n ok 0 d_Mo_cell_36 rfl rfl ?_
      refine jr_get (v := .ref (g 28)) ok 0 f_Mo_98 rfl rfl d_Mo_cell_37 ?_
      refine jr_bipush ok d_Mo_cell_40 (by decide +kernel) ?_
      refine jr_iload_n ok 1 d_Mo_cell_42 rfl rfl ?_
      refine jr_imul ok d_Mo_cell_43 ?_
      refine jr_iload_n ok 2 d_Mo_cell_44 rfl rfl ?_
      refine jr_iadd ok d_Mo_cell_45 ?_
      obtain ⟨hb10, hs⟩ := oq_if hs
      refine jr_zald ok 28 rfl rfl hb10.1 hb10.2 d_Mo_cell_46 ?_
      show jw X 0 0 (moL D g (MS.w_m_code S t0)) [(0, .ref (g 0)), (1, .int (ii v1)), (2, .int (ii v2))] 47 [.int (ii (S.m_isShown ((64 * v1) + v2)))]
      refine jr_wif_eq 64 ok rfl d_Mo_cell_47 (by decide) (fun c11 => ?_) (fun c11 => ?_)
      · replace hs := oq_pos c11 hs
        refine jr_lconst (z := 0) ok d_Mo_cell_64 (by decide +kernel) ?_
        exact jm_lret (Lf := moL D g) ok fin hs d_Mo_cell_65
      · replace hs := oq_neg c11 hs
        refine jr_aload_n ok 0 d_Mo_cell_50 rfl rfl ?_
        refine jr_get (v := .ref (g 27)) ok 0 f_Mo_95 rfl rfl d_Mo_cell_51 ?_
        refine jr_bipush ok d_Mo_cell_54 (by decide +kernel) ?_
        refine jr_iload_n ok 1 d_Mo_cell_56 rfl rfl ?_
        refine jr_imul ok d_Mo_cell_57 ?_
        refine jr_iload_n ok 2 d_Mo_cell_58 rfl rfl ?_
        refine jr_iadd ok d_Mo_cell_59 ?_
        obtain ⟨hb12, hs⟩ := oq_if hs
        refine jr_lald ok 27 rfl rfl hb12.1 hb12.2 d_Mo_cell_60 ?_
        show jw X 0 0 (moL D g (MS.w_m_code S t0)) [(0, .ref (g 0)), (1, .int (ii v1)), (2, .int (ii v2))] 61 [.long (S.m_shown ((64 * v1) + v2))]
        refine jr_goto 65 ok d_Mo_cell_61 (by decide) ?_
        exact jm_lret (Lf := moL D g) ok fin hs d_Mo_cell_65
  have B_25 : ∀ (v1 : Int) (v2 : Int) (S : MS), q_Mo_cell_25 v1 v2 S = some (r, S9) → jw X 0 0 (moL D g S) [(0, .ref (g 0)), (1, .int (ii v1)), (2, .int (ii v2))] 25 [.ref (g 0)] := by
    intro v1 v2 S hs
    rw [q_Mo_cell_25] at hs
    refine jr_iconst ok d_Mo_cell_25 ?_
    exact jr_lv [0, 1, 2] rfl (B_26 v1 v2 1 S hs)
  show jw X 0 0 (moL D g S) [(0, .ref (g 0)), (1, .int (ii v1)), (2, .int (ii v2))] 0 []
  rw [s_Mo_cell] at hs
  refine jr_aload_n ok 0 d_Mo_cell_0 rfl rfl ?_
  refine jr_aload_n ok 0 d_Mo_cell_1 rfl rfl ?_
  refine jr_iload_n ok 1 d_Mo_cell_2 rfl rfl ?_
  obtain ⟨r13, S13, hc13, hs⟩ := mb2_some hs
  refine jr_mV1 ok hR m_Mo_371 (c_Mo_isRow (jx_l X) D g S v1 r13 S13 hc13) rfl rfl rfl rfl (Nat.le_of_ble_eq_true rfl) ⟨Nat.le_of_ble_eq_true rfl, Nat.le_of_ble_eq_true rfl⟩ ⟨Nat.zero_le _, Nat.zero_le _⟩ d_Mo_cell_3 ?_
  refine jr_wif_eq 25 ok rfl d_Mo_cell_6 (by decide) (fun c14 => ?_) (fun c14 => ?_)
  · replace hs := oq_pos c14 hs
    exact jr_lv [0, 1, 2] rfl (B_25 v1 v2 S13 hs)
  · replace hs := oq_neg c14 hs
    refine jr_iload_n ok 2 d_Mo_cell_9 rfl rfl ?_
    refine jr_wif_lt 25 ok rfl d_Mo_cell_10 (by decide) (fun c15 => ?_) (fun c15 => ?_)
    · replace hs := oq_pos c15 hs
      exact jr_lv [0, 1, 2] rfl (B_25 v1 v2 S13 hs)
    · replace hs := oq_neg c15 hs
      refine jr_iload_n ok 2 d_Mo_cell_13 rfl rfl ?_
      refine jr_aload_n ok 0 d_Mo_cell_14 rfl rfl ?_
      refine jr_get (v := .int (ii S13.m_shownWindows)) ok 0 f_Mo_361 rfl rfl d_Mo_cell_15 ?_
      refine jr_wicmp_ge 25 ok rfl rfl d_Mo_cell_18 (by decide) (fun c16 => ?_) (fun c16 => ?_)
      · replace hs := oq_pos c16 hs
        exact jr_lv [0, 1, 2] rfl (B_25 v1 v2 S13 hs)
      · replace hs := oq_neg c16 hs
        refine jr_iconst ok d_Mo_cell_21 ?_
        refine jr_goto 26 ok d_Mo_cell_22 (by decide) ?_
        exact jr_lv [0, 1, 2] rfl (B_26 v1 v2 0 S13 hs)

def q_Mo_wordLength_2 : Nat → Int → Int → MS → Option (Int × MS)
  | 0, _, _, _ => none
  | n + 1, v1, v2, S => if w32 S.m_length ≤ w32 (v1 + v2) then some (v2, S) else if 25 ≤ w32 v2 then some (v2, S) else if (0 : Int) ≤ (v1 + v2) ∧ (v1 + v2) < (65536 : Int) then mb1 (s_Mo_isWord (S.m_tape (v1 + v2))) (fun r9 => if w32 r9 = 0 then some (v2, S) else (q_Mo_wordLength_2 n) v1 (v2 + 1) S) else none

def s_Mo_wordLength (S : MS) (v1 : Int) : Option (Int × MS) := q_Mo_wordLength_2 fU v1 0 S
set_option maxHeartbeats 4000000 in
set_option maxRecDepth 100000 in
theorem c_Mo_wordLength (l : Launch) (D : jd_T) (g : Nat → Nat) (S : MS) (v1 : Int) (r : Int) (S9 : MS) (hs : s_Mo_wordLength S v1 = some (r, S9)) : jc_C l D y_Mo_wordLength b_Mo_wordLength 3 (some .int) { frames := 1, cells := 0, slots := 0, locals := 20 } [.ref (g 0), .int (ii v1)] (moL D g S) (fun _ : Unit => (.returned (some (.int (ii r))), True, (moL D g S9))) := by
  refine jc_of rfl (Nat.le_of_ble_eq_true rfl) ?_
  intro X hl hR hN ok hnm fin
  subst hl
  have B_2 : ∀ (n2 : Nat), ∀ (v1 : Int) (v2 : Int) (S : MS), q_Mo_wordLength_2 n2 v1 v2 S = some (r, S9) → jw X 0 0 (moL D g S) [(0, .ref (g 0)), (1, .int (ii v1)), (2, .int (ii v2))] 2 [] := by
    intro n2
    induction n2 with
    | zero =>
      intro v1 v2 S hs
      rw [q_Mo_wordLength_2] at hs; cases hs
    | succ n2 ih2 =>
      intro v1 v2 S hs
      rw [q_Mo_wordLength_2] at hs
      refine jr_iload_n ok 1 d_Mo_wordLength_2 rfl rfl ?_
      refine jr_iload_n ok 2 d_Mo_wordLength_3 rfl rfl ?_
      refine jr_iadd ok d_Mo_wordLength_4 ?_
      refine jr_aload_n ok 0 d_Mo_wordLength_5 rfl rfl ?_
      refine jr_get (v := .int (ii S.m_length)) ok 0 f_Mo_105 rfl rfl d_Mo_wordLength_6 ?_
      refine jr_wicmp_ge 38 ok rfl rfl d_Mo_wordLength_9 (by decide) (fun c6 => ?_) (fun c6 => ?_)
      · replace hs := oq_pos c6 hs
        refine jr_iload_n ok 2 d_Mo_wordLength_38 rfl rfl ?_
        exact jm_iret (Lf := moL D g) ok fin hs d_Mo_wordLength_39
      · replace hs := oq_neg c6 hs
        refine jr_iload_n ok 2 d_Mo_wordLength_12 rfl rfl ?_
        refine jr_bipush ok d_Mo_wordLength_13 (by decide +kernel) ?_
        refine jr_wicmp_ge 38 ok rfl (show w32 25 = 25 by decide) d_Mo_wordLength_15 (by decide) (fun c7 => ?_) (fun c7 => ?_)
        · replace hs := oq_pos c7 hs
          refine jr_iload_n ok 2 d_Mo_wordLength_38 rfl rfl ?_
          exact jm_iret (Lf := moL D g) ok fin hs d_Mo_wordLength_39
        · replace hs := oq_neg c7 hs
          refine jr_aload_n ok 0 d_Mo_wordLength_18 rfl rfl ?_
          refine jr_get (v := .ref (g 1)) ok 0 f_Mo_8 rfl rfl d_Mo_wordLength_19 ?_
          refine jr_iload_n ok 1 d_Mo_wordLength_22 rfl rfl ?_
          refine jr_iload_n ok 2 d_Mo_wordLength_23 rfl rfl ?_
          refine jr_iadd ok d_Mo_wordLength_24 ?_
          obtain ⟨hb8, hs⟩ := oq_if hs
          refine jr_bald ok 1 rfl rfl hb8.1 hb8.2 d_Mo_wordLength_25 ?_
          obtain ⟨r9, hc9, hs⟩ := mb1_some hs
          refine jr_mS1 ok hR m_Mo_114 (c_Mo_isWord (jx_l X) D (S.m_tape (v1 + v2)) r9 hc9) rfl rfl (Nat.le_of_ble_eq_true rfl) ⟨Nat.le_of_ble_eq_true rfl, Nat.le_of_ble_eq_true rfl⟩ ⟨Nat.zero_le _, Nat.zero_le _⟩ d_Mo_wordLength_26 ?_
          refine jr_wif_eq 38 ok rfl d_Mo_wordLength_29 (by decide) (fun c10 => ?_) (fun c10 => ?_)
          · replace hs := oq_pos c10 hs
            refine jr_iload_n ok 2 d_Mo_wordLength_38 rfl rfl ?_
            exact jm_iret (Lf := moL D g) ok fin hs d_Mo_wordLength_39
          · replace hs := oq_neg c10 hs
            refine jr_iinc [(2, .int (ii (v2 + 1))), (0, .ref (g 0)), (1, .int (ii v1))] 2 ok d_Mo_wordLength_32 rfl (by rw [hN]; decide) rfl ?_
            refine jr_goto 2 ok d_Mo_wordLength_35 (by decide) ?_
            exact jr_lv [1, 2, 0] rfl (ih2 v1 (v2 + 1) S hs)
  show jw X 0 0 (moL D g S) [(0, .ref (g 0)), (1, .int (ii v1))] 0 []
  rw [s_Mo_wordLength] at hs
  refine jr_iconst ok d_Mo_wordLength_0 ?_
  refine jr_istore_n [(2, .int (ii 0)), (0, .ref (g 0)), (1, .int (ii v1))] ok d_Mo_wordLength_1 rfl (by rw [hN]; decide) rfl ?_
  exact jr_lv [1, 2, 0] rfl (B_2 fU v1 0 S hs)

def q_Mo_readNumber_131  (S : MS) : Option (Int × MS) := some (1, S)

def q_Mo_readNumber_99 (k12 : Int → MS → Option (Int × MS)) (v1 : Int) (t0 : Int64) (S : MS) : Option (Int × MS) := k12 v1 (MS.w_m_to (MS.w_m_amount S t0) (S.m_to + 1))

def q_Mo_readNumber_75 (k12 : Int → MS → Option (Int × MS)) (v2 : Int) (t0 : Int) (S : MS) : Option (Int × MS) := if w32 t0 = 0 then q_Mo_readNumber_99 k12 t0 S.m_amount S else q_Mo_readNumber_99 k12 t0 (((ll 10) * S.m_amount) + (ll (w32 v2))) S

def q_Mo_readNumber_74 (k12 : Int → MS → Option (Int × MS)) (v2 : Int) (S : MS) : Option (Int × MS) := q_Mo_readNumber_75 k12 v2 0 S

def q_Mo_readNumber_70 (k12 : Int → MS → Option (Int × MS)) (v2 : Int) (S : MS) : Option (Int × MS) := q_Mo_readNumber_75 k12 v2 1 S

def q_Mo_readNumber_12 : Nat → Int → MS → Option (Int × MS)
  | 0, _, _ => none
  | n + 1, v1, S => mb2 (s_Mo_at S S.m_to) (fun r13 S13 => mb1 (s_Mo_isDigit r13) (fun r14 => if w32 r14 = 0 then if w32 v1 = 0 then mb2 (s_Mo_flaw S13 1 S13.m_from) (fun r17 S17 => if w32 r17 = 0 then some (0, S17) else q_Mo_readNumber_131 S17) else q_Mo_readNumber_131 S13 else mb2 (s_Mo_at S13 S13.m_to) (fun r19 S19 => if w32 v1 = 0 then q_Mo_readNumber_74 (q_Mo_readNumber_12 n) (r19 - 48) S19 else if S19.m_amount.toInt < 922337203685477580 then q_Mo_readNumber_70 (q_Mo_readNumber_12 n) (r19 - 48) S19 else if S19.m_amount.toInt = 922337203685477580 then if 8 ≤ w32 (r19 - 48) then q_Mo_readNumber_74 (q_Mo_readNumber_12 n) (r19 - 48) S19 else q_Mo_readNumber_70 (q_Mo_readNumber_12 n) (r19 - 48) S19 else q_Mo_readNumber_74 (q_Mo_readNumber_12 n) (r19 - 48) S19)))

def s_Mo_readNumber (S : MS)  : Option (Int × MS) := q_Mo_readNumber_12 fU 1 (MS.w_m_amount (MS.w_m_kind S 1) (ll 0))
set_option maxHeartbeats 4000000 in
set_option maxRecDepth 100000 in
theorem c_Mo_readNumber (l : Launch) (D : jd_T) (g : Nat → Nat) (S : MS)  (r : Int) (S9 : MS) (hs : s_Mo_readNumber S  = some (r, S9)) : jc_C l D y_Mo_readNumber b_Mo_readNumber 3 (some .boolean) { frames := 1, cells := 0, slots := 0, locals := 22 } [.ref (g 0)] (moL D g S) (fun _ : Unit => (.returned (some (.int (ii r))), True, (moL D g S9))) := by
  refine jc_of rfl (Nat.le_of_ble_eq_true rfl) ?_
  intro X hl hR hN ok hnm fin
  subst hl
  have B_131 : ∀ (S : MS), q_Mo_readNumber_131 S = some (r, S9) → jw X 0 0 (moL D g S) [] 131 [] := by
    intro S hs
    rw [q_Mo_readNumber_131] at hs
    refine jr_iconst ok d_Mo_readNumber_131 ?_
    refine jr_goto 136 ok d_Mo_readNumber_132 (by decide) ?_
    exact jm_zret (Lf := moL D g) ok (by decide +kernel) fin hs d_Mo_readNumber_136
  have B_12 : ∀ (n12 : Nat), ∀ (v1 : Int) (S : MS), q_Mo_readNumber_12 n12 v1 S = some (r, S9) → jw X 0 0 (moL D g S) [(0, .ref (g 0)), (1, .int (ii v1))] 12 [] := by
    intro n12
    induction n12 with
    | zero =>
      intro v1 S hs
      rw [q_Mo_readNumber_12] at hs; cases hs
    | succ n12 ih12 =>
      have B_99 : ∀ (v1 : Int) (t0 : Int64) (S : MS), q_Mo_readNumber_99 (q_Mo_readNumber_12 n12) v1 t0 S = some (r, S9) → jw X 0 0 (moL D g S) [(0, .ref (g 0)), (1, .int (ii v1))] 99 [.long t0, .ref (g 0)] := by
        intro v1 t0 S hs
        rw [q_Mo_readNumber_99] at hs
        refine jr_put (moL D g (MS.w_m_amount S t0)) ok 0 f_Mo_216 rfl rfl rfl (Nat.le_of_ble_eq_true rfl) rfl d_Mo_readNumber_99 ?_
        refine jr_aload_n ok 0 d_Mo_readNumber_102 rfl rfl ?_
        refine jr_dup rfl ok d_Mo_readNumber_103 ?_
        refine jr_get (v := .int (ii S.m_to)) ok 0 f_Mo_192 rfl rfl d_Mo_readNumber_104 ?_
        refine jr_iconst ok d_Mo_readNumber_107 ?_
        refine jr_iadd ok d_Mo_readNumber_108 ?_
        refine jr_put (moL D g (MS.w_m_to (MS.w_m_amount S t0) (S.m_to + 1))) ok 0 f_Mo_192 rfl rfl rfl (Nat.le_of_ble_eq_true rfl) rfl d_Mo_readNumber_109 ?_
        refine jr_goto 12 ok d_Mo_readNumber_112 (by decide) ?_
        exact jr_lv [0, 1] rfl (ih12 v1 (MS.w_m_to (MS.w_m_amount S t0) (S.m_to + 1)) hs)
      have B_75 : ∀ (v2 : Int) (t0 : Int) (S : MS), q_Mo_readNumber_75 (q_Mo_readNumber_12 n12) v2 t0 S = some (r, S9) → jw X 0 0 (moL D g S) [(0, .ref (g 0)), (2, .int (ii v2))] 75 [.int (ii t0)] := by
        intro v2 t0 S hs
        rw [q_Mo_readNumber_75] at hs
        refine jr_istore_n [(1, .int (ii t0)), (0, .ref (g 0)), (2, .int (ii v2))] ok d_Mo_readNumber_75 rfl (by rw [hN]; decide) rfl ?_
        refine jr_aload_n ok 1 d_Mo_readNumber_76 rfl rfl ?_
        refine jr_iload_n ok 0 d_Mo_readNumber_77 rfl rfl ?_
        refine jr_wif_eq 95 ok rfl d_Mo_readNumber_78 (by decide) (fun c24 => ?_) (fun c24 => ?_)
        · replace hs := oq_pos c24 hs
          refine jr_aload_n ok 1 d_Mo_readNumber_95 rfl rfl ?_
          refine jr_get (v := .long S.m_amount) ok 0 f_Mo_216 rfl rfl d_Mo_readNumber_96 ?_
          exact jr_lv [1, 0] rfl (B_99 t0 S.m_amount S hs)
        · replace hs := oq_neg c24 hs
          refine jr_ldc2 (z := 10) ok w_1656 (by decide +kernel) d_Mo_readNumber_81 ?_
          refine jr_aload_n ok 1 d_Mo_readNumber_84 rfl rfl ?_
          refine jr_get (v := .long S.m_amount) ok 0 f_Mo_216 rfl rfl d_Mo_readNumber_85 ?_
          refine jr_lmulx ok d_Mo_readNumber_88 ?_
          refine jr_iload_n ok 2 d_Mo_readNumber_89 rfl rfl ?_
          refine jr_wi2l ok rfl d_Mo_readNumber_90 ?_
          refine jr_laddx ok d_Mo_readNumber_91 ?_
          refine jr_goto 99 ok d_Mo_readNumber_92 (by decide) ?_
          exact jr_lv [1, 0] rfl (B_99 t0 (((ll 10) * S.m_amount) + (ll (w32 v2))) S hs)
      have B_74 : ∀ (v2 : Int) (S : MS), q_Mo_readNumber_74 (q_Mo_readNumber_12 n12) v2 S = some (r, S9) → jw X 0 0 (moL D g S) [(0, .ref (g 0)), (2, .int (ii v2))] 74 [] := by
        intro v2 S hs
        rw [q_Mo_readNumber_74] at hs
        refine jr_iconst ok d_Mo_readNumber_74 ?_
        exact jr_lv [0, 1] rfl (B_75 v2 0 S hs)
      have B_70 : ∀ (v2 : Int) (S : MS), q_Mo_readNumber_70 (q_Mo_readNumber_12 n12) v2 S = some (r, S9) → jw X 0 0 (moL D g S) [(0, .ref (g 0)), (2, .int (ii v2))] 70 [] := by
        intro v2 S hs
        rw [q_Mo_readNumber_70] at hs
        refine jr_iconst ok d_Mo_readNumber_70 ?_
        refine jr_goto 75 ok d_Mo_readNumber_71 (by decide) ?_
        exact jr_lv [0, 1] rfl (B_75 v2 1 S hs)
      intro v1 S hs
      rw [q_Mo_readNumber_12] at hs
      refine jr_aload_n ok 0 d_Mo_readNumber_12 rfl rfl ?_
      refine jr_aload_n ok 0 d_Mo_readNumber_13 rfl rfl ?_
      refine jr_get (v := .int (ii S.m_to)) ok 0 f_Mo_192 rfl rfl d_Mo_readNumber_14 ?_
      obtain ⟨r13, S13, hc13, hs⟩ := mb2_some hs
      refine jr_mV1 ok hR m_Mo_198 (c_Mo_at (jx_l X) D g S S.m_to r13 S13 hc13) rfl rfl rfl rfl (Nat.le_of_ble_eq_true rfl) ⟨Nat.le_of_ble_eq_true rfl, Nat.le_of_ble_eq_true rfl⟩ ⟨Nat.zero_le _, Nat.zero_le _⟩ d_Mo_readNumber_17 ?_
      obtain ⟨r14, hc14, hs⟩ := mb1_some hs
      refine jr_mS1 ok hR m_Mo_204 (c_Mo_isDigit (jx_l X) D r13 r14 hc14) rfl rfl (Nat.le_of_ble_eq_true rfl) ⟨Nat.le_of_ble_eq_true rfl, Nat.le_of_ble_eq_true rfl⟩ ⟨Nat.zero_le _, Nat.zero_le _⟩ d_Mo_readNumber_20 ?_
      refine jr_wif_eq 115 ok rfl d_Mo_readNumber_23 (by decide) (fun c15 => ?_) (fun c15 => ?_)
      · replace hs := oq_pos c15 hs
        refine jr_iload_n ok 1 d_Mo_readNumber_115 rfl rfl ?_
        refine jr_wif_ne 131 ok rfl d_Mo_readNumber_116 (by decide) (fun c16 => ?_) (fun c16 => ?_)
        · replace hs := oq_neg c16 hs
          exact jr_lv [] rfl (B_131 S13 hs)
        · replace hs := oq_pos c16 hs
          refine jr_aload_n ok 0 d_Mo_readNumber_119 rfl rfl ?_
          refine jr_iconst ok d_Mo_readNumber_120 ?_
          refine jr_aload_n ok 0 d_Mo_readNumber_121 rfl rfl ?_
          refine jr_get (v := .int (ii S13.m_from)) ok 0 f_Mo_195 rfl rfl d_Mo_readNumber_122 ?_
          obtain ⟨r17, S17, hc17, hs⟩ := mb2_some hs
          refine jr_mV1 ok hR m_Mo_125 (c_Mo_flaw (jx_l X) D g S13 1 S13.m_from r17 S17 hc17) rfl rfl rfl rfl (Nat.le_of_ble_eq_true rfl) ⟨Nat.le_of_ble_eq_true rfl, Nat.le_of_ble_eq_true rfl⟩ ⟨Nat.zero_le _, Nat.zero_le _⟩ d_Mo_readNumber_125 ?_
          refine jr_wif_eq 135 ok rfl d_Mo_readNumber_128 (by decide) (fun c18 => ?_) (fun c18 => ?_)
          · replace hs := oq_pos c18 hs
            refine jr_iconst ok d_Mo_readNumber_135 ?_
            exact jm_zret (Lf := moL D g) ok (by decide +kernel) fin hs d_Mo_readNumber_136
          · replace hs := oq_neg c18 hs
            exact jr_lv [] rfl (B_131 S17 hs)
      · replace hs := oq_neg c15 hs
        refine jr_aload_n ok 0 d_Mo_readNumber_26 rfl rfl ?_
        refine jr_aload_n ok 0 d_Mo_readNumber_27 rfl rfl ?_
        refine jr_get (v := .int (ii S13.m_to)) ok 0 f_Mo_192 rfl rfl d_Mo_readNumber_28 ?_
        obtain ⟨r19, S19, hc19, hs⟩ := mb2_some hs
        refine jr_mV1 ok hR m_Mo_198 (c_Mo_at (jx_l X) D g S13 S13.m_to r19 S19 hc19) rfl rfl rfl rfl (Nat.le_of_ble_eq_true rfl) ⟨Nat.le_of_ble_eq_true rfl, Nat.le_of_ble_eq_true rfl⟩ ⟨Nat.zero_le _, Nat.zero_le _⟩ d_Mo_readNumber_31 ?_
        refine jr_bipush ok d_Mo_readNumber_34 (by decide +kernel) ?_
        refine jr_isub ok d_Mo_readNumber_36 ?_
        refine jr_istore_n [(2, .int (ii (r19 - 48))), (0, .ref (g 0)), (1, .int (ii v1))] ok d_Mo_readNumber_37 rfl (by rw [hN]; decide) rfl ?_
        refine jr_iload_n ok 2 d_Mo_readNumber_38 rfl rfl ?_
        refine jr_wif_eq 74 ok rfl d_Mo_readNumber_39 (by decide) (fun c20 => ?_) (fun c20 => ?_)
        · replace hs := oq_pos c20 hs
          exact jr_lv [1, 0] rfl (B_74 (r19 - 48) S19 hs)
        · replace hs := oq_neg c20 hs
          refine jr_aload_n ok 1 d_Mo_readNumber_42 rfl rfl ?_
          refine jr_get (v := .long S19.m_amount) ok 0 f_Mo_216 rfl rfl d_Mo_readNumber_43 ?_
          refine jr_ldc2 (z := 922337203685477580) ok w_1655 (by decide +kernel) d_Mo_readNumber_46 ?_
          refine jr_lif_lt 70 ok rfl (ll_toInt ⟨by decide, by decide⟩) d_Mo_readNumber_49 d_Mo_readNumber_50 (by decide) (fun c21 => ?_) (fun c21 => ?_)
          · replace hs := oq_pos c21 hs
            exact jr_lv [1, 0] rfl (B_70 (r19 - 48) S19 hs)
          · replace hs := oq_neg c21 hs
            refine jr_aload_n ok 1 d_Mo_readNumber_53 rfl rfl ?_
            refine jr_get (v := .long S19.m_amount) ok 0 f_Mo_216 rfl rfl d_Mo_readNumber_54 ?_
            refine jr_ldc2 (z := 922337203685477580) ok w_1655 (by decide +kernel) d_Mo_readNumber_57 ?_
            refine jr_lif_ne 74 ok rfl (ll_toInt ⟨by decide, by decide⟩) d_Mo_readNumber_60 d_Mo_readNumber_61 (by decide) (fun c22 => ?_) (fun c22 => ?_)
            · replace hs := oq_neg c22 hs
              exact jr_lv [1, 0] rfl (B_74 (r19 - 48) S19 hs)
            · replace hs := oq_pos c22 hs
              refine jr_iload_n ok 0 d_Mo_readNumber_64 rfl rfl ?_
              refine jr_bipush ok d_Mo_readNumber_65 (by decide +kernel) ?_
              refine jr_wicmp_ge 74 ok rfl (show w32 8 = 8 by decide) d_Mo_readNumber_67 (by decide) (fun c23 => ?_) (fun c23 => ?_)
              · replace hs := oq_pos c23 hs
                exact jr_lv [1, 0] rfl (B_74 (r19 - 48) S19 hs)
              · replace hs := oq_neg c23 hs
                exact jr_lv [1, 0] rfl (B_70 (r19 - 48) S19 hs)
  show jw X 0 0 (moL D g S) [(0, .ref (g 0))] 0 []
  rw [s_Mo_readNumber] at hs
  refine jr_aload_n ok 0 d_Mo_readNumber_0 rfl rfl ?_
  refine jr_iconst ok d_Mo_readNumber_1 ?_
  refine jr_put (moL D g (MS.w_m_kind S 1)) ok 0 f_Mo_201 rfl rfl rfl (Nat.le_of_ble_eq_true rfl) rfl d_Mo_readNumber_2 ?_
  refine jr_aload_n ok 0 d_Mo_readNumber_5 rfl rfl ?_
  refine jr_lconst (z := 0) ok d_Mo_readNumber_6 (by decide +kernel) ?_
  refine jr_put (moL D g (MS.w_m_amount (MS.w_m_kind S 1) (ll 0))) ok 0 f_Mo_216 rfl rfl rfl (Nat.le_of_ble_eq_true rfl) rfl d_Mo_readNumber_7 ?_
  refine jr_iconst ok d_Mo_readNumber_10 ?_
  refine jr_istore_n [(1, .int (ii 1)), (0, .ref (g 0))] ok d_Mo_readNumber_11 rfl (by rw [hN]; decide) rfl ?_
  exact jr_lv [1, 0] rfl (B_12 fU 1 (MS.w_m_amount (MS.w_m_kind S 1) (ll 0)) hs)

def q_Mo_gather_361 (v6 : Int) (S : MS) : Option (Unit × MS) := if (0 : Int) ≤ v6 ∧ v6 < (327680 : Int) then some ((), MS.w_m_isCell S (aU S.m_isCell v6 1)) else none

def q_Mo_gather_324 (v6 : Int) (t0 : Int64) (t1 : Int64) (t2 : Int) (S : MS) : Option (Unit × MS) := if (0 : Int) ≤ t2 ∧ t2 < (327680 : Int) then q_Mo_gather_361 v6 (MS.w_m_cells S (aU S.m_cells t2 (t1 + t0))) else none

def q_Mo_gather_267 (v6 : Int) (t0 : Int64) (t1 : Int) (S : MS) : Option (Unit × MS) := if (0 : Int) ≤ t1 ∧ t1 < (327680 : Int) then q_Mo_gather_361 v6 (MS.w_m_cells S (aU S.m_cells t1 t0)) else none

def q_Mo_gather_260 (v6 : Int) (t0 : Int) (S : MS) : Option (Unit × MS) := if (0 : Int) ≤ v6 ∧ v6 < (327680 : Int) then q_Mo_gather_267 v6 (S.m_cells v6) t0 S else none

def q_Mo_gather_255 (v6 : Int) (v9 : Int64) (t0 : Int) (S : MS) : Option (Unit × MS) := q_Mo_gather_267 v6 v9 t0 S

def q_Mo_gather_210 (v2 : Int) (v6 : Int) (v9 : Int64) (v13 : Int) (S : MS) : Option (Unit × MS) := if w32 v13 = 0 then q_Mo_gather_255 v6 v9 v6 S else if w32 v2 = 2 then if (0 : Int) ≤ v6 ∧ v6 < (327680 : Int) then if (S.m_cells v6).toInt ≤ v9.toInt then q_Mo_gather_260 v6 v6 S else q_Mo_gather_255 v6 v9 v6 S else none else if (0 : Int) ≤ v6 ∧ v6 < (327680 : Int) then if v9.toInt ≤ (S.m_cells v6).toInt then q_Mo_gather_260 v6 v6 S else q_Mo_gather_255 v6 v9 v6 S else none

def q_Mo_gather_195 (v6 : Int) (t0 : Int64) (t1 : Int64) (t2 : Int) (S : MS) : Option (Unit × MS) := if (0 : Int) ≤ t2 ∧ t2 < (327680 : Int) then q_Mo_gather_361 v6 (MS.w_m_cells S (aU S.m_cells t2 (t1 + t0))) else none

def q_Mo_gather_177 (v2 : Int) (v6 : Int) (v9 : Int64) (S : MS) : Option (Unit × MS) := if (0 : Int) ≤ v6 ∧ v6 < (327680 : Int) then if w32 v2 = 0 then q_Mo_gather_195 v6 v9 (S.m_cells v6) v6 S else q_Mo_gather_195 v6 (ll 1) (S.m_cells v6) v6 S else none

def q_Mo_gather_166 (v2 : Int) (v6 : Int) (v7 : Int) (v8 : Int) (v9 : Int64) (v11 : Int64) (v13 : Int) (t0 : Int) (S : MS) : Option (Unit × MS) := if w32 v2 = 0 then q_Mo_gather_177 v2 v6 v9 S else if w32 v2 = 1 then q_Mo_gather_177 v2 v6 v9 S else if w32 v2 = 2 then q_Mo_gather_210 v2 v6 v9 v13 S else if w32 v2 = 3 then q_Mo_gather_210 v2 v6 v9 v13 S else if w32 v2 = 6 then if (0 : Int) ≤ v8 ∧ v8 < (256 : Int) then if w32 (S.m_hasBefore v8) = 0 then some ((), S) else if (0 : Int) ≤ v6 ∧ v6 < (327680 : Int) then if (0 : Int) ≤ v8 ∧ v8 < (256 : Int) then if (S.m_befores v8).toInt ≤ v9.toInt then if (0 : Int) ≤ v8 ∧ v8 < (256 : Int) then q_Mo_gather_324 v6 (v9 - (S.m_befores v8)) (S.m_cells v6) v6 S else none else q_Mo_gather_324 v6 v9 (S.m_cells v6) v6 S else none else none else none else if w32 t0 = 0 then q_Mo_gather_361 v6 S else if (0 : Int) ≤ v6 ∧ v6 < (327680 : Int) then if (0 : Int) ≤ v7 ∧ v7 < (16384 : Int) then if (0 : Int) ≤ v7 ∧ v7 < (16384 : Int) then q_Mo_gather_361 v6 (MS.w_m_keySeries (MS.w_m_keyTimes (MS.w_m_cells S (aU S.m_cells v6 v9)) (aU S.m_keyTimes v7 v11)) (aU S.m_keySeries v7 v8)) else none else none else none

def q_Mo_gather_152 (v2 : Int) (v6 : Int) (v7 : Int) (v8 : Int) (v9 : Int64) (v11 : Int64) (v13 : Int) (v14 : Int) (t0 : Int) (S : MS) : Option (Unit × MS) := if w32 v2 = 4 then q_Mo_gather_166 v2 v6 v7 v8 v9 v11 v13 v14 S else q_Mo_gather_166 v2 v6 v7 v8 v9 v11 v13 t0 S

def q_Mo_gather_151 (v2 : Int) (v6 : Int) (v7 : Int) (v8 : Int) (v9 : Int64) (v11 : Int64) (v13 : Int) (v14 : Int) (S : MS) : Option (Unit × MS) := q_Mo_gather_152 v2 v6 v7 v8 v9 v11 v13 v14 0 S

def q_Mo_gather_147 (v2 : Int) (v6 : Int) (v7 : Int) (v8 : Int) (v9 : Int64) (v11 : Int64) (v13 : Int) (v14 : Int) (S : MS) : Option (Unit × MS) := q_Mo_gather_152 v2 v6 v7 v8 v9 v11 v13 v14 1 S

def q_Mo_gather_102 (v2 : Int) (v6 : Int) (v7 : Int) (v8 : Int) (v9 : Int64) (v11 : Int64) (v13 : Int) (t0 : Int) (S : MS) : Option (Unit × MS) := if w32 v13 = 0 then q_Mo_gather_147 v2 v6 v7 v8 v9 v11 v13 t0 S else if (0 : Int) ≤ v7 ∧ v7 < (16384 : Int) then if (S.m_keyTimes v7).toInt < v11.toInt then q_Mo_gather_147 v2 v6 v7 v8 v9 v11 v13 t0 S else if (0 : Int) ≤ v7 ∧ v7 < (16384 : Int) then if v11.toInt = (S.m_keyTimes v7).toInt then if (0 : Int) ≤ v7 ∧ v7 < (16384 : Int) then if w32 (S.m_keySeries v7) ≤ w32 v8 then q_Mo_gather_151 v2 v6 v7 v8 v9 v11 v13 t0 S else q_Mo_gather_147 v2 v6 v7 v8 v9 v11 v13 t0 S else none else q_Mo_gather_151 v2 v6 v7 v8 v9 v11 v13 t0 S else none else none

def q_Mo_gather_101 (v2 : Int) (v6 : Int) (v7 : Int) (v8 : Int) (v9 : Int64) (v11 : Int64) (v13 : Int) (S : MS) : Option (Unit × MS) := q_Mo_gather_102 v2 v6 v7 v8 v9 v11 v13 0 S

def q_Mo_gather_97 (v2 : Int) (v6 : Int) (v7 : Int) (v8 : Int) (v9 : Int64) (v11 : Int64) (v13 : Int) (S : MS) : Option (Unit × MS) := q_Mo_gather_102 v2 v6 v7 v8 v9 v11 v13 1 S

def s_Mo_gather (S : MS) (v1 : Int) (v2 : Int) (v3 : Int) (v4 : Int) (v5 : Int) : Option (Unit × MS) := mb2 (s_Mo_cellAt S v1 v4 v5) (fun r85 S85 => if (0 : Int) ≤ v3 ∧ v3 < (8192 : Int) then if (0 : Int) ≤ v3 ∧ v3 < (8192 : Int) then if (0 : Int) ≤ v3 ∧ v3 < (8192 : Int) then if (0 : Int) ≤ r85 ∧ r85 < (327680 : Int) then if w32 (S85.m_isCell r85) = 0 then q_Mo_gather_97 v2 r85 ((v4 * 64) + v5) (S85.m_pointSeries v3) (S85.m_pointValues v3) (S85.m_pointTimes v3) (S85.m_isCell r85) S85 else if (0 : Int) ≤ ((v4 * 64) + v5) ∧ ((v4 * 64) + v5) < (16384 : Int) then if (S85.m_pointTimes v3).toInt < (S85.m_keyTimes ((v4 * 64) + v5)).toInt then q_Mo_gather_97 v2 r85 ((v4 * 64) + v5) (S85.m_pointSeries v3) (S85.m_pointValues v3) (S85.m_pointTimes v3) (S85.m_isCell r85) S85 else if (0 : Int) ≤ ((v4 * 64) + v5) ∧ ((v4 * 64) + v5) < (16384 : Int) then if (S85.m_pointTimes v3).toInt = (S85.m_keyTimes ((v4 * 64) + v5)).toInt then if (0 : Int) ≤ ((v4 * 64) + v5) ∧ ((v4 * 64) + v5) < (16384 : Int) then if w32 (S85.m_keySeries ((v4 * 64) + v5)) ≤ w32 (S85.m_pointSeries v3) then q_Mo_gather_101 v2 r85 ((v4 * 64) + v5) (S85.m_pointSeries v3) (S85.m_pointValues v3) (S85.m_pointTimes v3) (S85.m_isCell r85) S85 else q_Mo_gather_97 v2 r85 ((v4 * 64) + v5) (S85.m_pointSeries v3) (S85.m_pointValues v3) (S85.m_pointTimes v3) (S85.m_isCell r85) S85 else none else q_Mo_gather_101 v2 r85 ((v4 * 64) + v5) (S85.m_pointSeries v3) (S85.m_pointValues v3) (S85.m_pointTimes v3) (S85.m_isCell r85) S85 else none else none else none else none else none else none)
set_option maxHeartbeats 4000000 in
set_option maxRecDepth 100000 in
theorem c_Mo_gather (l : Launch) (D : jd_T) (g : Nat → Nat) (S : MS) (v1 : Int) (v2 : Int) (v3 : Int) (v4 : Int) (v5 : Int) (r : Unit) (S9 : MS) (hs : s_Mo_gather S v1 v2 v3 v4 v5 = some (r, S9)) : jc_C l D y_Mo_gather b_Mo_gather 17 none { frames := 1, cells := 0, slots := 0, locals := 23 } [.ref (g 0), .int (ii v1), .int (ii v2), .int (ii v3), .int (ii v4), .int (ii v5)] (moL D g S) (fun _ : Unit => (.returned (none), True, (moL D g S9))) := by
  refine jc_of rfl (Nat.le_of_ble_eq_true rfl) ?_
  intro X hl hR hN ok hnm fin
  subst hl
  have B_361 : ∀ (v6 : Int) (S : MS), q_Mo_gather_361 v6 S = some (r, S9) → jw X 0 0 (moL D g S) [(0, .ref (g 0)), (6, .int (ii v6))] 361 [] := by
    intro v6 S hs
    rw [q_Mo_gather_361] at hs
    refine jr_aload_n ok 0 d_Mo_gather_361 rfl rfl ?_
    refine jr_get (v := .ref (g 16)) ok 0 f_Mo_60 rfl rfl d_Mo_gather_362 ?_
    refine jr_iload ok 1 d_Mo_gather_365 rfl ?_
    refine jr_iconst ok d_Mo_gather_367 ?_
    obtain ⟨hb84, hs⟩ := oq_if hs
    refine jr_zast (moL D g (MS.w_m_isCell S (aU S.m_isCell v6 1))) ok 16 rfl rfl hb84.1 hb84.2 (by decide +kernel) rfl d_Mo_gather_368 ?_
    exact jm_vret (Lf := moL D g) ok fin hs d_Mo_gather_369
  have B_324 : ∀ (v6 : Int) (t0 : Int64) (t1 : Int64) (t2 : Int) (S : MS), q_Mo_gather_324 v6 t0 t1 t2 S = some (r, S9) → jw X 0 0 (moL D g S) [(0, .ref (g 0)), (6, .int (ii v6))] 324 [.long t0, .long t1, .int (ii t2), .ref (g 15)] := by
    intro v6 t0 t1 t2 S hs
    rw [q_Mo_gather_324] at hs
    refine jr_laddx ok d_Mo_gather_324 ?_
    obtain ⟨hb83, hs⟩ := oq_if hs
    refine jr_last (moL D g (MS.w_m_cells S (aU S.m_cells t2 (t1 + t0)))) ok 15 rfl rfl hb83.1 hb83.2  rfl d_Mo_gather_325 ?_
    refine jr_goto 361 ok d_Mo_gather_326 (by decide) ?_
    exact jr_lv [0, 1] rfl (B_361 v6 (MS.w_m_cells S (aU S.m_cells t2 (t1 + t0))) hs)
  have B_267 : ∀ (v6 : Int) (t0 : Int64) (t1 : Int) (S : MS), q_Mo_gather_267 v6 t0 t1 S = some (r, S9) → jw X 0 0 (moL D g S) [(0, .ref (g 0)), (6, .int (ii v6))] 267 [.long t0, .int (ii t1), .ref (g 15)] := by
    intro v6 t0 t1 S hs
    rw [q_Mo_gather_267] at hs
    obtain ⟨hb82, hs⟩ := oq_if hs
    refine jr_last (moL D g (MS.w_m_cells S (aU S.m_cells t1 t0))) ok 15 rfl rfl hb82.1 hb82.2  rfl d_Mo_gather_267 ?_
    refine jr_goto 361 ok d_Mo_gather_268 (by decide) ?_
    exact jr_lv [0, 1] rfl (B_361 v6 (MS.w_m_cells S (aU S.m_cells t1 t0)) hs)
  have B_260 : ∀ (v6 : Int) (t0 : Int) (S : MS), q_Mo_gather_260 v6 t0 S = some (r, S9) → jw X 0 0 (moL D g S) [(0, .ref (g 0)), (6, .int (ii v6))] 260 [.int (ii t0), .ref (g 15)] := by
    intro v6 t0 S hs
    rw [q_Mo_gather_260] at hs
    refine jr_aload_n ok 0 d_Mo_gather_260 rfl rfl ?_
    refine jr_get (v := .ref (g 15)) ok 0 f_Mo_57 rfl rfl d_Mo_gather_261 ?_
    refine jr_iload ok 1 d_Mo_gather_264 rfl ?_
    obtain ⟨hb81, hs⟩ := oq_if hs
    refine jr_lald ok 15 rfl rfl hb81.1 hb81.2 d_Mo_gather_266 ?_
    exact jr_lv [0, 1] rfl (B_267 v6 (S.m_cells v6) t0 S hs)
  have B_255 : ∀ (v6 : Int) (v9 : Int64) (t0 : Int) (S : MS), q_Mo_gather_255 v6 v9 t0 S = some (r, S9) → jw X 0 0 (moL D g S) [(0, .ref (g 0)), (6, .int (ii v6)), (9, .long v9)] 255 [.int (ii t0), .ref (g 15)] := by
    intro v6 v9 t0 S hs
    rw [q_Mo_gather_255] at hs
    refine jr_lload ok 2 d_Mo_gather_255 rfl ?_
    refine jr_goto 267 ok d_Mo_gather_257 (by decide) ?_
    exact jr_lv [0, 1] rfl (B_267 v6 v9 t0 S hs)
  have B_210 : ∀ (v2 : Int) (v6 : Int) (v9 : Int64) (v13 : Int) (S : MS), q_Mo_gather_210 v2 v6 v9 v13 S = some (r, S9) → jw X 0 0 (moL D g S) [(0, .ref (g 0)), (2, .int (ii v2)), (6, .int (ii v6)), (9, .long v9), (13, .int (ii v13))] 210 [] := by
    intro v2 v6 v9 v13 S hs
    rw [q_Mo_gather_210] at hs
    refine jr_aload_n ok 0 d_Mo_gather_210 rfl rfl ?_
    refine jr_get (v := .ref (g 15)) ok 0 f_Mo_57 rfl rfl d_Mo_gather_211 ?_
    refine jr_iload ok 2 d_Mo_gather_214 rfl ?_
    refine jr_iload ok 4 d_Mo_gather_216 rfl ?_
    refine jr_wif_eq 255 ok rfl d_Mo_gather_218 (by decide) (fun c75 => ?_) (fun c75 => ?_)
    · replace hs := oq_pos c75 hs
      exact jr_lv [0, 2, 3] rfl (B_255 v6 v9 v6 S hs)
    · replace hs := oq_neg c75 hs
      refine jr_iload_n ok 1 d_Mo_gather_221 rfl rfl ?_
      refine jr_iconst ok d_Mo_gather_222 ?_
      refine jr_wicmp_ne 242 ok rfl (show w32 2 = 2 by decide) d_Mo_gather_223 (by decide) (fun c76 => ?_) (fun c76 => ?_)
      · replace hs := oq_neg c76 hs
        refine jr_lload ok 3 d_Mo_gather_242 rfl ?_
        refine jr_aload_n ok 0 d_Mo_gather_244 rfl rfl ?_
        refine jr_get (v := .ref (g 15)) ok 0 f_Mo_57 rfl rfl d_Mo_gather_245 ?_
        refine jr_iload ok 2 d_Mo_gather_248 rfl ?_
        obtain ⟨hb77, hs⟩ := oq_if hs
        refine jr_lald ok 15 rfl rfl hb77.1 hb77.2 d_Mo_gather_250 ?_
        refine jr_lif_le 260 ok rfl rfl d_Mo_gather_251 d_Mo_gather_252 (by decide) (fun c78 => ?_) (fun c78 => ?_)
        · replace hs := oq_pos c78 hs
          exact jr_lv [0, 2] rfl (B_260 v6 v6 S hs)
        · replace hs := oq_neg c78 hs
          exact jr_lv [0, 2, 3] rfl (B_255 v6 v9 v6 S hs)
      · replace hs := oq_pos c76 hs
        refine jr_lload ok 3 d_Mo_gather_226 rfl ?_
        refine jr_aload_n ok 0 d_Mo_gather_228 rfl rfl ?_
        refine jr_get (v := .ref (g 15)) ok 0 f_Mo_57 rfl rfl d_Mo_gather_229 ?_
        refine jr_iload ok 2 d_Mo_gather_232 rfl ?_
        obtain ⟨hb79, hs⟩ := oq_if hs
        refine jr_lald ok 15 rfl rfl hb79.1 hb79.2 d_Mo_gather_234 ?_
        refine jr_lif_ge 260 ok rfl rfl d_Mo_gather_235 d_Mo_gather_236 (by decide) (fun c80 => ?_) (fun c80 => ?_)
        · replace hs := oq_pos c80 hs
          exact jr_lv [0, 2] rfl (B_260 v6 v6 S hs)
        · replace hs := oq_neg c80 hs
          refine jr_goto 255 ok d_Mo_gather_239 (by decide) ?_
          exact jr_lv [0, 2, 3] rfl (B_255 v6 v9 v6 S hs)
  have B_195 : ∀ (v6 : Int) (t0 : Int64) (t1 : Int64) (t2 : Int) (S : MS), q_Mo_gather_195 v6 t0 t1 t2 S = some (r, S9) → jw X 0 0 (moL D g S) [(0, .ref (g 0)), (6, .int (ii v6))] 195 [.long t0, .long t1, .int (ii t2), .ref (g 15)] := by
    intro v6 t0 t1 t2 S hs
    rw [q_Mo_gather_195] at hs
    refine jr_laddx ok d_Mo_gather_195 ?_
    obtain ⟨hb74, hs⟩ := oq_if hs
    refine jr_last (moL D g (MS.w_m_cells S (aU S.m_cells t2 (t1 + t0)))) ok 15 rfl rfl hb74.1 hb74.2  rfl d_Mo_gather_196 ?_
    refine jr_goto 361 ok d_Mo_gather_197 (by decide) ?_
    exact jr_lv [0, 1] rfl (B_361 v6 (MS.w_m_cells S (aU S.m_cells t2 (t1 + t0))) hs)
  have B_177 : ∀ (v2 : Int) (v6 : Int) (v9 : Int64) (S : MS), q_Mo_gather_177 v2 v6 v9 S = some (r, S9) → jw X 0 0 (moL D g S) [(0, .ref (g 0)), (2, .int (ii v2)), (6, .int (ii v6)), (9, .long v9)] 177 [] := by
    intro v2 v6 v9 S hs
    rw [q_Mo_gather_177] at hs
    refine jr_aload_n ok 0 d_Mo_gather_177 rfl rfl ?_
    refine jr_get (v := .ref (g 15)) ok 0 f_Mo_57 rfl rfl d_Mo_gather_178 ?_
    refine jr_iload ok 2 d_Mo_gather_181 rfl ?_
    refine jr_dup2 rfl rfl ok d_Mo_gather_183 ?_
    obtain ⟨hb72, hs⟩ := oq_if hs
    refine jr_lald ok 15 rfl rfl hb72.1 hb72.2 d_Mo_gather_184 ?_
    refine jr_iload_n ok 1 d_Mo_gather_185 rfl rfl ?_
    refine jr_wif_ne 194 ok rfl d_Mo_gather_186 (by decide) (fun c73 => ?_) (fun c73 => ?_)
    · replace hs := oq_neg c73 hs
      refine jr_lconst (z := 1) ok d_Mo_gather_194 (by decide +kernel) ?_
      exact jr_lv [0, 2] rfl (B_195 v6 (ll 1) (S.m_cells v6) v6 S hs)
    · replace hs := oq_pos c73 hs
      refine jr_lload ok 3 d_Mo_gather_189 rfl ?_
      refine jr_goto 195 ok d_Mo_gather_191 (by decide) ?_
      exact jr_lv [0, 2] rfl (B_195 v6 v9 (S.m_cells v6) v6 S hs)
  have B_166 : ∀ (v2 : Int) (v6 : Int) (v7 : Int) (v8 : Int) (v9 : Int64) (v11 : Int64) (v13 : Int) (t0 : Int) (S : MS), q_Mo_gather_166 v2 v6 v7 v8 v9 v11 v13 t0 S = some (r, S9) → jw X 0 0 (moL D g S) [(0, .ref (g 0)), (2, .int (ii v2)), (6, .int (ii v6)), (7, .int (ii v7)), (8, .int (ii v8)), (9, .long v9), (11, .long v11), (13, .int (ii v13))] 166 [.int (ii t0)] := by
    intro v2 v6 v7 v8 v9 v11 v13 t0 S hs
    rw [q_Mo_gather_166] at hs
    refine jr_istore [(16, .int (ii t0)), (0, .ref (g 0)), (2, .int (ii v2)), (6, .int (ii v6)), (7, .int (ii v7)), (8, .int (ii v8)), (9, .long v9), (11, .long v11), (13, .int (ii v13))] ok d_Mo_gather_166 (by rw [hN]; decide) rfl ?_
    refine jr_iload_n ok 2 d_Mo_gather_168 rfl rfl ?_
    refine jr_wif_eq 177 ok rfl d_Mo_gather_169 (by decide) (fun c57 => ?_) (fun c57 => ?_)
    · replace hs := oq_pos c57 hs
      exact jr_lv [1, 2, 3, 6] rfl (B_177 v2 v6 v9 S hs)
    · replace hs := oq_neg c57 hs
      refine jr_iload_n ok 2 d_Mo_gather_172 rfl rfl ?_
      refine jr_iconst ok d_Mo_gather_173 ?_
      refine jr_wicmp_ne 200 ok rfl (show w32 1 = 1 by decide) d_Mo_gather_174 (by decide) (fun c58 => ?_) (fun c58 => ?_)
      · replace hs := oq_neg c58 hs
        refine jr_iload_n ok 2 d_Mo_gather_200 rfl rfl ?_
        refine jr_iconst ok d_Mo_gather_201 ?_
        refine jr_wicmp_eq 210 ok rfl (show w32 2 = 2 by decide) d_Mo_gather_202 (by decide) (fun c59 => ?_) (fun c59 => ?_)
        · replace hs := oq_pos c59 hs
          exact jr_lv [1, 2, 3, 6, 8] rfl (B_210 v2 v6 v9 v13 S hs)
        · replace hs := oq_neg c59 hs
          refine jr_iload_n ok 2 d_Mo_gather_205 rfl rfl ?_
          refine jr_iconst ok d_Mo_gather_206 ?_
          refine jr_wicmp_ne 271 ok rfl (show w32 3 = 3 by decide) d_Mo_gather_207 (by decide) (fun c60 => ?_) (fun c60 => ?_)
          · replace hs := oq_neg c60 hs
            refine jr_iload_n ok 2 d_Mo_gather_271 rfl rfl ?_
            refine jr_bipush ok d_Mo_gather_272 (by decide +kernel) ?_
            refine jr_wicmp_ne 329 ok rfl (show w32 6 = 6 by decide) d_Mo_gather_274 (by decide) (fun c61 => ?_) (fun c61 => ?_)
            · replace hs := oq_neg c61 hs
              refine jr_iload ok 0 d_Mo_gather_329 rfl ?_
              refine jr_wif_eq 361 ok rfl d_Mo_gather_331 (by decide) (fun c62 => ?_) (fun c62 => ?_)
              · replace hs := oq_pos c62 hs
                exact jr_lv [1, 3] rfl (B_361 v6 S hs)
              · replace hs := oq_neg c62 hs
                refine jr_aload_n ok 1 d_Mo_gather_334 rfl rfl ?_
                refine jr_get (v := .ref (g 15)) ok 0 f_Mo_57 rfl rfl d_Mo_gather_335 ?_
                refine jr_iload ok 3 d_Mo_gather_338 rfl ?_
                refine jr_lload ok 6 d_Mo_gather_340 rfl ?_
                obtain ⟨hb63, hs⟩ := oq_if hs
                refine jr_last (moL D g (MS.w_m_cells S (aU S.m_cells v6 v9))) ok 15 rfl rfl hb63.1 hb63.2  rfl d_Mo_gather_342 ?_
                refine jr_aload_n ok 1 d_Mo_gather_343 rfl rfl ?_
                refine jr_get (v := .ref (g 19)) ok 0 f_Mo_70 rfl rfl d_Mo_gather_344 ?_
                refine jr_iload ok 4 d_Mo_gather_347 rfl ?_
                refine jr_lload ok 7 d_Mo_gather_349 rfl ?_
                obtain ⟨hb64, hs⟩ := oq_if hs
                refine jr_last (moL D g (MS.w_m_keyTimes (MS.w_m_cells S (aU S.m_cells v6 v9)) (aU S.m_keyTimes v7 v11))) ok 19 rfl rfl hb64.1 hb64.2  rfl d_Mo_gather_351 ?_
                refine jr_aload_n ok 1 d_Mo_gather_352 rfl rfl ?_
                refine jr_get (v := .ref (g 20)) ok 0 f_Mo_73 rfl rfl d_Mo_gather_353 ?_
                refine jr_iload ok 4 d_Mo_gather_356 rfl ?_
                refine jr_iload ok 5 d_Mo_gather_358 rfl ?_
                obtain ⟨hb65, hs⟩ := oq_if hs
                refine jr_iast (moL D g (MS.w_m_keySeries (MS.w_m_keyTimes (MS.w_m_cells S (aU S.m_cells v6 v9)) (aU S.m_keyTimes v7 v11)) (aU S.m_keySeries v7 v8))) ok 20 rfl rfl hb65.1 hb65.2  rfl d_Mo_gather_360 ?_
                exact jr_lv [1, 3] rfl (B_361 v6 (MS.w_m_keySeries (MS.w_m_keyTimes (MS.w_m_cells S (aU S.m_cells v6 v9)) (aU S.m_keyTimes v7 v11)) (aU S.m_keySeries v7 v8)) hs)
            · replace hs := oq_pos c61 hs
              refine jr_aload_n ok 1 d_Mo_gather_277 rfl rfl ?_
              refine jr_get (v := .ref (g 22)) ok 0 f_Mo_79 rfl rfl d_Mo_gather_278 ?_
              refine jr_iload ok 5 d_Mo_gather_281 rfl ?_
              obtain ⟨hb66, hs⟩ := oq_if hs
              refine jr_zald ok 22 rfl rfl hb66.1 hb66.2 d_Mo_gather_283 ?_
              refine jr_wif_ne 288 ok rfl d_Mo_gather_284 (by decide) (fun c67 => ?_) (fun c67 => ?_)
              · replace hs := oq_neg c67 hs
                refine jr_aload_n ok 1 d_Mo_gather_288 rfl rfl ?_
                refine jr_get (v := .ref (g 15)) ok 0 f_Mo_57 rfl rfl d_Mo_gather_289 ?_
                refine jr_iload ok 3 d_Mo_gather_292 rfl ?_
                refine jr_dup2 rfl rfl ok d_Mo_gather_294 ?_
                obtain ⟨hb68, hs⟩ := oq_if hs
                refine jr_lald ok 15 rfl rfl hb68.1 hb68.2 d_Mo_gather_295 ?_
                refine jr_aload_n ok 1 d_Mo_gather_296 rfl rfl ?_
                refine jr_get (v := .ref (g 21)) ok 0 f_Mo_76 rfl rfl d_Mo_gather_297 ?_
                refine jr_iload ok 5 d_Mo_gather_300 rfl ?_
                obtain ⟨hb69, hs⟩ := oq_if hs
                refine jr_lald ok 21 rfl rfl hb69.1 hb69.2 d_Mo_gather_302 ?_
                refine jr_lload ok 6 d_Mo_gather_303 rfl ?_
                refine jr_lif_le 314 ok rfl rfl d_Mo_gather_305 d_Mo_gather_306 (by decide) (fun c70 => ?_) (fun c70 => ?_)
                · replace hs := oq_pos c70 hs
                  refine jr_lload ok 6 d_Mo_gather_314 rfl ?_
                  refine jr_aload_n ok 1 d_Mo_gather_316 rfl rfl ?_
                  refine jr_get (v := .ref (g 21)) ok 0 f_Mo_76 rfl rfl d_Mo_gather_317 ?_
                  refine jr_iload ok 5 d_Mo_gather_320 rfl ?_
                  obtain ⟨hb71, hs⟩ := oq_if hs
                  refine jr_lald ok 21 rfl rfl hb71.1 hb71.2 d_Mo_gather_322 ?_
                  refine jr_lsubx ok d_Mo_gather_323 ?_
                  exact jr_lv [1, 3] rfl (B_324 v6 (v9 - (S.m_befores v8)) (S.m_cells v6) v6 S hs)
                · replace hs := oq_neg c70 hs
                  refine jr_lload ok 6 d_Mo_gather_309 rfl ?_
                  refine jr_goto 324 ok d_Mo_gather_311 (by decide) ?_
                  exact jr_lv [1, 3] rfl (B_324 v6 v9 (S.m_cells v6) v6 S hs)
              · replace hs := oq_pos c67 hs
                exact jm_vret (Lf := moL D g) ok fin hs d_Mo_gather_287
          · replace hs := oq_pos c60 hs
            exact jr_lv [1, 2, 3, 6, 8] rfl (B_210 v2 v6 v9 v13 S hs)
      · replace hs := oq_pos c58 hs
        exact jr_lv [1, 2, 3, 6] rfl (B_177 v2 v6 v9 S hs)
  have B_152 : ∀ (v2 : Int) (v6 : Int) (v7 : Int) (v8 : Int) (v9 : Int64) (v11 : Int64) (v13 : Int) (v14 : Int) (t0 : Int) (S : MS), q_Mo_gather_152 v2 v6 v7 v8 v9 v11 v13 v14 t0 S = some (r, S9) → jw X 0 0 (moL D g S) [(0, .ref (g 0)), (2, .int (ii v2)), (6, .int (ii v6)), (7, .int (ii v7)), (8, .int (ii v8)), (9, .long v9), (11, .long v11), (13, .int (ii v13)), (14, .int (ii v14))] 152 [.int (ii t0)] := by
    intro v2 v6 v7 v8 v9 v11 v13 v14 t0 S hs
    rw [q_Mo_gather_152] at hs
    refine jr_istore [(15, .int (ii t0)), (0, .ref (g 0)), (2, .int (ii v2)), (6, .int (ii v6)), (7, .int (ii v7)), (8, .int (ii v8)), (9, .long v9), (11, .long v11), (13, .int (ii v13)), (14, .int (ii v14))] ok d_Mo_gather_152 (by rw [hN]; decide) rfl ?_
    refine jr_iload_n ok 2 d_Mo_gather_154 rfl rfl ?_
    refine jr_iconst ok d_Mo_gather_155 ?_
    refine jr_wicmp_ne 164 ok rfl (show w32 4 = 4 by decide) d_Mo_gather_156 (by decide) (fun c56 => ?_) (fun c56 => ?_)
    · replace hs := oq_neg c56 hs
      refine jr_iload ok 0 d_Mo_gather_164 rfl ?_
      exact jr_lv [1, 2, 3, 4, 5, 6, 7, 8] rfl (B_166 v2 v6 v7 v8 v9 v11 v13 t0 S hs)
    · replace hs := oq_pos c56 hs
      refine jr_iload ok 9 d_Mo_gather_159 rfl ?_
      refine jr_goto 166 ok d_Mo_gather_161 (by decide) ?_
      exact jr_lv [1, 2, 3, 4, 5, 6, 7, 8] rfl (B_166 v2 v6 v7 v8 v9 v11 v13 v14 S hs)
  have B_151 : ∀ (v2 : Int) (v6 : Int) (v7 : Int) (v8 : Int) (v9 : Int64) (v11 : Int64) (v13 : Int) (v14 : Int) (S : MS), q_Mo_gather_151 v2 v6 v7 v8 v9 v11 v13 v14 S = some (r, S9) → jw X 0 0 (moL D g S) [(0, .ref (g 0)), (2, .int (ii v2)), (6, .int (ii v6)), (7, .int (ii v7)), (8, .int (ii v8)), (9, .long v9), (11, .long v11), (13, .int (ii v13)), (14, .int (ii v14))] 151 [] := by
    intro v2 v6 v7 v8 v9 v11 v13 v14 S hs
    rw [q_Mo_gather_151] at hs
    refine jr_iconst ok d_Mo_gather_151 ?_
    exact jr_lv [0, 1, 2, 3, 4, 5, 6, 7, 8] rfl (B_152 v2 v6 v7 v8 v9 v11 v13 v14 0 S hs)
  have B_147 : ∀ (v2 : Int) (v6 : Int) (v7 : Int) (v8 : Int) (v9 : Int64) (v11 : Int64) (v13 : Int) (v14 : Int) (S : MS), q_Mo_gather_147 v2 v6 v7 v8 v9 v11 v13 v14 S = some (r, S9) → jw X 0 0 (moL D g S) [(0, .ref (g 0)), (2, .int (ii v2)), (6, .int (ii v6)), (7, .int (ii v7)), (8, .int (ii v8)), (9, .long v9), (11, .long v11), (13, .int (ii v13)), (14, .int (ii v14))] 147 [] := by
    intro v2 v6 v7 v8 v9 v11 v13 v14 S hs
    rw [q_Mo_gather_147] at hs
    refine jr_iconst ok d_Mo_gather_147 ?_
    refine jr_goto 152 ok d_Mo_gather_148 (by decide) ?_
    exact jr_lv [0, 1, 2, 3, 4, 5, 6, 7, 8] rfl (B_152 v2 v6 v7 v8 v9 v11 v13 v14 1 S hs)
  have B_102 : ∀ (v2 : Int) (v6 : Int) (v7 : Int) (v8 : Int) (v9 : Int64) (v11 : Int64) (v13 : Int) (t0 : Int) (S : MS), q_Mo_gather_102 v2 v6 v7 v8 v9 v11 v13 t0 S = some (r, S9) → jw X 0 0 (moL D g S) [(0, .ref (g 0)), (2, .int (ii v2)), (6, .int (ii v6)), (7, .int (ii v7)), (8, .int (ii v8)), (9, .long v9), (11, .long v11), (13, .int (ii v13))] 102 [.int (ii t0)] := by
    intro v2 v6 v7 v8 v9 v11 v13 t0 S hs
    rw [q_Mo_gather_102] at hs
    refine jr_istore [(14, .int (ii t0)), (0, .ref (g 0)), (2, .int (ii v2)), (6, .int (ii v6)), (7, .int (ii v7)), (8, .int (ii v8)), (9, .long v9), (11, .long v11), (13, .int (ii v13))] ok d_Mo_gather_102 (by rw [hN]; decide) rfl ?_
    refine jr_iload ok 8 d_Mo_gather_104 rfl ?_
    refine jr_wif_eq 147 ok rfl d_Mo_gather_106 (by decide) (fun c49 => ?_) (fun c49 => ?_)
    · replace hs := oq_pos c49 hs
      exact jr_lv [1, 2, 3, 4, 5, 6, 7, 8, 0] rfl (B_147 v2 v6 v7 v8 v9 v11 v13 t0 S hs)
    · replace hs := oq_neg c49 hs
      refine jr_lload ok 7 d_Mo_gather_109 rfl ?_
      refine jr_aload_n ok 1 d_Mo_gather_111 rfl rfl ?_
      refine jr_get (v := .ref (g 19)) ok 0 f_Mo_70 rfl rfl d_Mo_gather_112 ?_
      refine jr_iload ok 4 d_Mo_gather_115 rfl ?_
      obtain ⟨hb50, hs⟩ := oq_if hs
      refine jr_lald ok 19 rfl rfl hb50.1 hb50.2 d_Mo_gather_117 ?_
      refine jr_lif_gt 147 ok rfl rfl d_Mo_gather_118 d_Mo_gather_119 (by decide) (fun c51 => ?_) (fun c51 => ?_)
      · replace hs := oq_pos c51 hs
        exact jr_lv [1, 2, 3, 4, 5, 6, 7, 8, 0] rfl (B_147 v2 v6 v7 v8 v9 v11 v13 t0 S hs)
      · replace hs := oq_neg c51 hs
        refine jr_lload ok 7 d_Mo_gather_122 rfl ?_
        refine jr_aload_n ok 1 d_Mo_gather_124 rfl rfl ?_
        refine jr_get (v := .ref (g 19)) ok 0 f_Mo_70 rfl rfl d_Mo_gather_125 ?_
        refine jr_iload ok 4 d_Mo_gather_128 rfl ?_
        obtain ⟨hb52, hs⟩ := oq_if hs
        refine jr_lald ok 19 rfl rfl hb52.1 hb52.2 d_Mo_gather_130 ?_
        refine jr_lif_ne 151 ok rfl rfl d_Mo_gather_131 d_Mo_gather_132 (by decide) (fun c53 => ?_) (fun c53 => ?_)
        · replace hs := oq_neg c53 hs
          exact jr_lv [1, 2, 3, 4, 5, 6, 7, 8, 0] rfl (B_151 v2 v6 v7 v8 v9 v11 v13 t0 S hs)
        · replace hs := oq_pos c53 hs
          refine jr_iload ok 5 d_Mo_gather_135 rfl ?_
          refine jr_aload_n ok 1 d_Mo_gather_137 rfl rfl ?_
          refine jr_get (v := .ref (g 20)) ok 0 f_Mo_73 rfl rfl d_Mo_gather_138 ?_
          refine jr_iload ok 4 d_Mo_gather_141 rfl ?_
          obtain ⟨hb54, hs⟩ := oq_if hs
          refine jr_iald ok 20 rfl rfl hb54.1 hb54.2 d_Mo_gather_143 ?_
          refine jr_wicmp_ge 151 ok rfl rfl d_Mo_gather_144 (by decide) (fun c55 => ?_) (fun c55 => ?_)
          · replace hs := oq_pos c55 hs
            exact jr_lv [1, 2, 3, 4, 5, 6, 7, 8, 0] rfl (B_151 v2 v6 v7 v8 v9 v11 v13 t0 S hs)
          · replace hs := oq_neg c55 hs
            exact jr_lv [1, 2, 3, 4, 5, 6, 7, 8, 0] rfl (B_147 v2 v6 v7 v8 v9 v11 v13 t0 S hs)
  have B_101 : ∀ (v2 : Int) (v6 : Int) (v7 : Int) (v8 : Int) (v9 : Int64) (v11 : Int64) (v13 : Int) (S : MS), q_Mo_gather_101 v2 v6 v7 v8 v9 v11 v13 S = some (r, S9) → jw X 0 0 (moL D g S) [(0, .ref (g 0)), (2, .int (ii v2)), (6, .int (ii v6)), (7, .int (ii v7)), (8, .int (ii v8)), (9, .long v9), (11, .long v11), (13, .int (ii v13))] 101 [] := by
    intro v2 v6 v7 v8 v9 v11 v13 S hs
    rw [q_Mo_gather_101] at hs
    refine jr_iconst ok d_Mo_gather_101 ?_
    exact jr_lv [0, 1, 2, 3, 4, 5, 6, 7] rfl (B_102 v2 v6 v7 v8 v9 v11 v13 0 S hs)
  have B_97 : ∀ (v2 : Int) (v6 : Int) (v7 : Int) (v8 : Int) (v9 : Int64) (v11 : Int64) (v13 : Int) (S : MS), q_Mo_gather_97 v2 v6 v7 v8 v9 v11 v13 S = some (r, S9) → jw X 0 0 (moL D g S) [(0, .ref (g 0)), (2, .int (ii v2)), (6, .int (ii v6)), (7, .int (ii v7)), (8, .int (ii v8)), (9, .long v9), (11, .long v11), (13, .int (ii v13))] 97 [] := by
    intro v2 v6 v7 v8 v9 v11 v13 S hs
    rw [q_Mo_gather_97] at hs
    refine jr_iconst ok d_Mo_gather_97 ?_
    refine jr_goto 102 ok d_Mo_gather_98 (by decide) ?_
    exact jr_lv [0, 1, 2, 3, 4, 5, 6, 7] rfl (B_102 v2 v6 v7 v8 v9 v11 v13 1 S hs)
  show jw X 0 0 (moL D g S) [(0, .ref (g 0)), (1, .int (ii v1)), (2, .int (ii v2)), (3, .int (ii v3)), (4, .int (ii v4)), (5, .int (ii v5))] 0 []
  rw [s_Mo_gather] at hs
  refine jr_aload_n ok 0 d_Mo_gather_0 rfl rfl ?_
  refine jr_iload_n ok 1 d_Mo_gather_1 rfl rfl ?_
  refine jr_iload ok 4 d_Mo_gather_2 rfl ?_
  refine jr_iload ok 5 d_Mo_gather_4 rfl ?_
  obtain ⟨r85, S85, hc85, hs⟩ := mb2_some hs
  refine jr_mV1 ok hR m_Mo_250 (c_Mo_cellAt (jx_l X) D g S v1 v4 v5 r85 S85 hc85) rfl rfl rfl rfl (Nat.le_of_ble_eq_true rfl) ⟨Nat.le_of_ble_eq_true rfl, Nat.le_of_ble_eq_true rfl⟩ ⟨Nat.zero_le _, Nat.zero_le _⟩ d_Mo_gather_6 ?_
  refine jr_istore [(6, .int (ii r85)), (0, .ref (g 0)), (1, .int (ii v1)), (2, .int (ii v2)), (3, .int (ii v3)), (4, .int (ii v4)), (5, .int (ii v5))] ok d_Mo_gather_9 (by rw [hN]; decide) rfl ?_
  refine jr_iload ok 5 d_Mo_gather_11 rfl ?_
  refine jr_bipush ok d_Mo_gather_13 (by decide +kernel) ?_
  refine jr_imul ok d_Mo_gather_15 ?_
  refine jr_iload ok 6 d_Mo_gather_16 rfl ?_
  refine jr_iadd ok d_Mo_gather_18 ?_
  refine jr_istore [(7, .int (ii ((v4 * 64) + v5))), (6, .int (ii r85)), (0, .ref (g 0)), (1, .int (ii v1)), (2, .int (ii v2)), (3, .int (ii v3)), (4, .int (ii v4)), (5, .int (ii v5))] ok d_Mo_gather_19 (by rw [hN]; decide) rfl ?_
  refine jr_aload_n ok 2 d_Mo_gather_21 rfl rfl ?_
  refine jr_get (v := .ref (g 5)) ok 0 f_Mo_26 rfl rfl d_Mo_gather_22 ?_
  refine jr_iload_n ok 5 d_Mo_gather_25 rfl rfl ?_
  obtain ⟨hb86, hs⟩ := oq_if hs
  refine jr_iald ok 5 rfl rfl hb86.1 hb86.2 d_Mo_gather_26 ?_
  refine jr_istore [(8, .int (ii (S85.m_pointSeries v3))), (7, .int (ii ((v4 * 64) + v5))), (6, .int (ii r85)), (0, .ref (g 0)), (1, .int (ii v1)), (2, .int (ii v2)), (3, .int (ii v3)), (4, .int (ii v4)), (5, .int (ii v5))] ok d_Mo_gather_27 (by rw [hN]; decide) rfl ?_
  refine jr_aload_n ok 3 d_Mo_gather_29 rfl rfl ?_
  refine jr_get (v := .ref (g 7)) ok 0 f_Mo_32 rfl rfl d_Mo_gather_30 ?_
  refine jr_iload_n ok 6 d_Mo_gather_33 rfl rfl ?_
  obtain ⟨hb87, hs⟩ := oq_if hs
  refine jr_lald ok 7 rfl rfl hb87.1 hb87.2 d_Mo_gather_34 ?_
  refine jr_lstore [(9, .long (S85.m_pointValues v3)), (8, .int (ii (S85.m_pointSeries v3))), (7, .int (ii ((v4 * 64) + v5))), (6, .int (ii r85)), (0, .ref (g 0)), (1, .int (ii v1)), (2, .int (ii v2)), (3, .int (ii v3)), (4, .int (ii v4)), (5, .int (ii v5))] ok d_Mo_gather_35 (by rw [hN]; decide) rfl ?_
  refine jr_aload_n ok 4 d_Mo_gather_37 rfl rfl ?_
  refine jr_get (v := .ref (g 6)) ok 0 f_Mo_29 rfl rfl d_Mo_gather_38 ?_
  refine jr_iload_n ok 7 d_Mo_gather_41 rfl rfl ?_
  obtain ⟨hb88, hs⟩ := oq_if hs
  refine jr_lald ok 6 rfl rfl hb88.1 hb88.2 d_Mo_gather_42 ?_
  refine jr_lstore [(11, .long (S85.m_pointTimes v3)), (9, .long (S85.m_pointValues v3)), (8, .int (ii (S85.m_pointSeries v3))), (7, .int (ii ((v4 * 64) + v5))), (6, .int (ii r85)), (0, .ref (g 0)), (1, .int (ii v1)), (2, .int (ii v2)), (3, .int (ii v3)), (4, .int (ii v4)), (5, .int (ii v5))] ok d_Mo_gather_43 (by rw [hN]; decide) rfl ?_
  refine jr_aload_n ok 5 d_Mo_gather_45 rfl rfl ?_
  refine jr_get (v := .ref (g 16)) ok 0 f_Mo_60 rfl rfl d_Mo_gather_46 ?_
  refine jr_iload ok 4 d_Mo_gather_49 rfl ?_
  obtain ⟨hb89, hs⟩ := oq_if hs
  refine jr_zald ok 16 rfl rfl hb89.1 hb89.2 d_Mo_gather_51 ?_
  refine jr_istore [(13, .int (ii (S85.m_isCell r85))), (11, .long (S85.m_pointTimes v3)), (9, .long (S85.m_pointValues v3)), (8, .int (ii (S85.m_pointSeries v3))), (7, .int (ii ((v4 * 64) + v5))), (6, .int (ii r85)), (0, .ref (g 0)), (1, .int (ii v1)), (2, .int (ii v2)), (3, .int (ii v3)), (4, .int (ii v4)), (5, .int (ii v5))] ok d_Mo_gather_52 (by rw [hN]; decide) rfl ?_
  refine jr_iload ok 0 d_Mo_gather_54 rfl ?_
  refine jr_wif_eq 97 ok rfl d_Mo_gather_56 (by decide) (fun c90 => ?_) (fun c90 => ?_)
  · replace hs := oq_pos c90 hs
    exact jr_lv [6, 8, 5, 4, 3, 2, 1, 0] rfl (B_97 v2 r85 ((v4 * 64) + v5) (S85.m_pointSeries v3) (S85.m_pointValues v3) (S85.m_pointTimes v3) (S85.m_isCell r85) S85 hs)
  · replace hs := oq_neg c90 hs
    refine jr_lload ok 1 d_Mo_gather_59 rfl ?_
    refine jr_aload_n ok 6 d_Mo_gather_61 rfl rfl ?_
    refine jr_get (v := .ref (g 19)) ok 0 f_Mo_70 rfl rfl d_Mo_gather_62 ?_
    refine jr_iload ok 4 d_Mo_gather_65 rfl ?_
    obtain ⟨hb91, hs⟩ := oq_if hs
    refine jr_lald ok 19 rfl rfl hb91.1 hb91.2 d_Mo_gather_67 ?_
    refine jr_lif_lt 97 ok rfl rfl d_Mo_gather_68 d_Mo_gather_69 (by decide) (fun c92 => ?_) (fun c92 => ?_)
    · replace hs := oq_pos c92 hs
      exact jr_lv [6, 8, 5, 4, 3, 2, 1, 0] rfl (B_97 v2 r85 ((v4 * 64) + v5) (S85.m_pointSeries v3) (S85.m_pointValues v3) (S85.m_pointTimes v3) (S85.m_isCell r85) S85 hs)
    · replace hs := oq_neg c92 hs
      refine jr_lload ok 1 d_Mo_gather_72 rfl ?_
      refine jr_aload_n ok 6 d_Mo_gather_74 rfl rfl ?_
      refine jr_get (v := .ref (g 19)) ok 0 f_Mo_70 rfl rfl d_Mo_gather_75 ?_
      refine jr_iload ok 4 d_Mo_gather_78 rfl ?_
      obtain ⟨hb93, hs⟩ := oq_if hs
      refine jr_lald ok 19 rfl rfl hb93.1 hb93.2 d_Mo_gather_80 ?_
      refine jr_lif_ne 101 ok rfl rfl d_Mo_gather_81 d_Mo_gather_82 (by decide) (fun c94 => ?_) (fun c94 => ?_)
      · replace hs := oq_neg c94 hs
        exact jr_lv [6, 8, 5, 4, 3, 2, 1, 0] rfl (B_101 v2 r85 ((v4 * 64) + v5) (S85.m_pointSeries v3) (S85.m_pointValues v3) (S85.m_pointTimes v3) (S85.m_isCell r85) S85 hs)
      · replace hs := oq_pos c94 hs
        refine jr_iload ok 3 d_Mo_gather_85 rfl ?_
        refine jr_aload_n ok 6 d_Mo_gather_87 rfl rfl ?_
        refine jr_get (v := .ref (g 20)) ok 0 f_Mo_73 rfl rfl d_Mo_gather_88 ?_
        refine jr_iload ok 4 d_Mo_gather_91 rfl ?_
        obtain ⟨hb95, hs⟩ := oq_if hs
        refine jr_iald ok 20 rfl rfl hb95.1 hb95.2 d_Mo_gather_93 ?_
        refine jr_wicmp_ge 101 ok rfl rfl d_Mo_gather_94 (by decide) (fun c96 => ?_) (fun c96 => ?_)
        · replace hs := oq_pos c96 hs
          exact jr_lv [6, 8, 5, 4, 3, 2, 1, 0] rfl (B_101 v2 r85 ((v4 * 64) + v5) (S85.m_pointSeries v3) (S85.m_pointValues v3) (S85.m_pointTimes v3) (S85.m_isCell r85) S85 hs)
        · replace hs := oq_neg c96 hs
          exact jr_lv [6, 8, 5, 4, 3, 2, 1, 0] rfl (B_97 v2 r85 ((v4 * 64) + v5) (S85.m_pointSeries v3) (S85.m_pointValues v3) (S85.m_pointTimes v3) (S85.m_isCell r85) S85 hs)

def q_Mo_text_59  (S : MS) : Option (Int × MS) := some (-1, S)

def q_Mo_text_14 (v1 : Int) (v2 : Int) (v3 : Int) (t0 : Int) (S : MS) : Option (Int × MS) := if w32 t0 ≤ 0 then if w32 v2 < 0 then q_Mo_text_59 (MS.w_m_code S t0) else if w32 S.m_names ≤ w32 v2 then q_Mo_text_59 (MS.w_m_code S t0) else if w32 v3 < 0 then q_Mo_text_59 (MS.w_m_code S t0) else if (0 : Int) ≤ ((6 * v1) + v2) ∧ ((6 * v1) + v2) < (1536 : Int) then if w32 v3 < w32 (S.m_rowLengths ((6 * v1) + v2)) then if (0 : Int) ≤ ((((6 * v1) + v2) * 24) + v3) ∧ ((((6 * v1) + v2) * 24) + v3) < (36864 : Int) then some (S.m_rowTexts ((((6 * v1) + v2) * 24) + v3), MS.w_m_code S t0) else none else q_Mo_text_59 (MS.w_m_code S t0) else none else some (0, MS.w_m_code S t0)

def s_Mo_text (S : MS) (v1 : Int) (v2 : Int) (v3 : Int) : Option (Int × MS) := mb2 (s_Mo_isRow S v1) (fun r17 S17 => if w32 r17 = 0 then q_Mo_text_14 v1 v2 v3 1 S17 else q_Mo_text_14 v1 v2 v3 0 S17)
set_option maxHeartbeats 4000000 in
set_option maxRecDepth 100000 in
theorem c_Mo_text (l : Launch) (D : jd_T) (g : Nat → Nat) (S : MS) (v1 : Int) (v2 : Int) (v3 : Int) (r : Int) (S9 : MS) (hs : s_Mo_text S v1 v2 v3 = some (r, S9)) : jc_C l D y_Mo_text b_Mo_text 4 (some .int) { frames := 1, cells := 0, slots := 0, locals := 21 } [.ref (g 0), .int (ii v1), .int (ii v2), .int (ii v3)] (moL D g S) (fun _ : Unit => (.returned (some (.int (ii r))), True, (moL D g S9))) := by
  refine jc_of rfl (Nat.le_of_ble_eq_true rfl) ?_
  intro X hl hR hN ok hnm fin
  subst hl
  have B_59 : ∀ (S : MS), q_Mo_text_59 S = some (r, S9) → jw X 0 0 (moL D g S) [] 59 [] := by
    intro S hs
    rw [q_Mo_text_59] at hs
    refine jr_iconst ok d_Mo_text_59 ?_
    refine jr_goto 79 ok d_Mo_text_60 (by decide) ?_
    exact jm_iret (Lf := moL D g) ok fin hs d_Mo_text_79
  have B_14 : ∀ (v1 : Int) (v2 : Int) (v3 : Int) (t0 : Int) (S : MS), q_Mo_text_14 v1 v2 v3 t0 S = some (r, S9) → jw X 0 0 (moL D g S) [(0, .ref (g 0)), (1, .int (ii v1)), (2, .int (ii v2)), (3, .int (ii v3))] 14 [.int (ii t0), .ref (g 0)] := by
    intro v1 v2 v3 t0 S hs
    rw [q_Mo_text_14] at hs
    refine jr_put (moL D g (MS.w_m_code S t0)) ok 0 f_Mo_101 rfl rfl rfl (Nat.le_of_ble_eq_true rfl) rfl d_Mo_text_14 ?_
    refine jr_aload_n ok 0 d_Mo_text_17 rfl rfl ?_
    refine jr_get (v := .int (ii t0)) ok 0 f_Mo_101 rfl rfl d_Mo_text_18 ?_
    refine jr_wif_le 28 ok rfl d_Mo_text_21 (by decide) (fun c10 => ?_) (fun c10 => ?_)
    · replace hs := oq_pos c10 hs
      refine jr_iload_n ok 2 d_Mo_text_28 rfl rfl ?_
      refine jr_wif_lt 59 ok rfl d_Mo_text_29 (by decide) (fun c11 => ?_) (fun c11 => ?_)
      · replace hs := oq_pos c11 hs
        exact jr_lv [] rfl (B_59 (MS.w_m_code S t0) hs)
      · replace hs := oq_neg c11 hs
        refine jr_iload_n ok 2 d_Mo_text_32 rfl rfl ?_
        refine jr_aload_n ok 0 d_Mo_text_33 rfl rfl ?_
        refine jr_get (v := .int (ii S.m_names)) ok 0 f_Mo_355 rfl rfl d_Mo_text_34 ?_
        refine jr_wicmp_ge 59 ok rfl rfl d_Mo_text_37 (by decide) (fun c12 => ?_) (fun c12 => ?_)
        · replace hs := oq_pos c12 hs
          exact jr_lv [] rfl (B_59 (MS.w_m_code S t0) hs)
        · replace hs := oq_neg c12 hs
          refine jr_iload_n ok 3 d_Mo_text_40 rfl rfl ?_
          refine jr_wif_lt 59 ok rfl d_Mo_text_41 (by decide) (fun c13 => ?_) (fun c13 => ?_)
          · replace hs := oq_pos c13 hs
            exact jr_lv [] rfl (B_59 (MS.w_m_code S t0) hs)
          · replace hs := oq_neg c13 hs
            refine jr_iload_n ok 3 d_Mo_text_44 rfl rfl ?_
            refine jr_aload_n ok 0 d_Mo_text_45 rfl rfl ?_
            refine jr_get (v := .ref (g 26)) ok 0 f_Mo_92 rfl rfl d_Mo_text_46 ?_
            refine jr_bipush ok d_Mo_text_49 (by decide +kernel) ?_
            refine jr_iload_n ok 1 d_Mo_text_51 rfl rfl ?_
            refine jr_imul ok d_Mo_text_52 ?_
            refine jr_iload_n ok 2 d_Mo_text_53 rfl rfl ?_
            refine jr_iadd ok d_Mo_text_54 ?_
            obtain ⟨hb14, hs⟩ := oq_if hs
            refine jr_iald ok 26 rfl rfl hb14.1 hb14.2 d_Mo_text_55 ?_
            show jw X 0 0 (moL D g (MS.w_m_code S t0)) [(0, .ref (g 0)), (1, .int (ii v1)), (2, .int (ii v2)), (3, .int (ii v3))] 56 [.int (ii (S.m_rowLengths ((6 * v1) + v2))), .int (ii v3)]
            refine jr_wicmp_lt 63 ok rfl rfl d_Mo_text_56 (by decide) (fun c15 => ?_) (fun c15 => ?_)
            · replace hs := oq_pos c15 hs
              refine jr_aload_n ok 0 d_Mo_text_63 rfl rfl ?_
              refine jr_get (v := .ref (g 25)) ok 0 f_Mo_89 rfl rfl d_Mo_text_64 ?_
              refine jr_bipush ok d_Mo_text_67 (by decide +kernel) ?_
              refine jr_iload_n ok 1 d_Mo_text_69 rfl rfl ?_
              refine jr_imul ok d_Mo_text_70 ?_
              refine jr_iload_n ok 2 d_Mo_text_71 rfl rfl ?_
              refine jr_iadd ok d_Mo_text_72 ?_
              refine jr_bipush ok d_Mo_text_73 (by decide +kernel) ?_
              refine jr_imul ok d_Mo_text_75 ?_
              refine jr_iload_n ok 3 d_Mo_text_76 rfl rfl ?_
              refine jr_iadd ok d_Mo_text_77 ?_
              obtain ⟨hb16, hs⟩ := oq_if hs
              refine jr_bald ok 25 rfl rfl hb16.1 hb16.2 d_Mo_text_78 ?_
              show jw X 0 0 (moL D g (MS.w_m_code S t0)) [(0, .ref (g 0)), (1, .int (ii v1)), (2, .int (ii v2)), (3, .int (ii v3))] 79 [.int (ii (S.m_rowTexts ((((6 * v1) + v2) * 24) + v3)))]
              exact jm_iret (Lf := moL D g) ok fin hs d_Mo_text_79
            · replace hs := oq_neg c15 hs
              exact jr_lv [] rfl (B_59 (MS.w_m_code S t0) hs)
    · replace hs := oq_neg c10 hs
      refine jr_iconst ok d_Mo_text_24 ?_
      refine jr_goto 79 ok d_Mo_text_25 (by decide) ?_
      exact jm_iret (Lf := moL D g) ok fin hs d_Mo_text_79
  show jw X 0 0 (moL D g S) [(0, .ref (g 0)), (1, .int (ii v1)), (2, .int (ii v2)), (3, .int (ii v3))] 0 []
  rw [s_Mo_text] at hs
  refine jr_aload_n ok 0 d_Mo_text_0 rfl rfl ?_
  refine jr_aload_n ok 0 d_Mo_text_1 rfl rfl ?_
  refine jr_iload_n ok 1 d_Mo_text_2 rfl rfl ?_
  obtain ⟨r17, S17, hc17, hs⟩ := mb2_some hs
  refine jr_mV1 ok hR m_Mo_371 (c_Mo_isRow (jx_l X) D g S v1 r17 S17 hc17) rfl rfl rfl rfl (Nat.le_of_ble_eq_true rfl) ⟨Nat.le_of_ble_eq_true rfl, Nat.le_of_ble_eq_true rfl⟩ ⟨Nat.zero_le _, Nat.zero_le _⟩ d_Mo_text_3 ?_
  refine jr_wif_eq 13 ok rfl d_Mo_text_6 (by decide) (fun c18 => ?_) (fun c18 => ?_)
  · replace hs := oq_pos c18 hs
    refine jr_iconst ok d_Mo_text_13 ?_
    exact jr_lv [0, 1, 2, 3] rfl (B_14 v1 v2 v3 1 S17 hs)
  · replace hs := oq_neg c18 hs
    refine jr_iconst ok d_Mo_text_9 ?_
    refine jr_goto 14 ok d_Mo_text_10 (by decide) ?_
    exact jr_lv [0, 1, 2, 3] rfl (B_14 v1 v2 v3 0 S17 hs)

def q_Mo_last_14 (v1 : Int) (t0 : Int) (S : MS) : Option (Int64 × MS) := if w32 t0 ≤ 0 then if (0 : Int) ≤ v1 ∧ v1 < (256 : Int) then some (S.m_lasts v1, MS.w_m_code S t0) else none else some (ll 0, MS.w_m_code S t0)

def s_Mo_last (S : MS) (v1 : Int) : Option (Int64 × MS) := mb2 (s_Mo_isSeries S v1) (fun r7 S7 => if w32 r7 = 0 then q_Mo_last_14 v1 1 S7 else q_Mo_last_14 v1 0 S7)
set_option maxHeartbeats 4000000 in
set_option maxRecDepth 100000 in
theorem c_Mo_last (l : Launch) (D : jd_T) (g : Nat → Nat) (S : MS) (v1 : Int) (r : Int64) (S9 : MS) (hs : s_Mo_last S v1 = some (r, S9)) : jc_C l D y_Mo_last b_Mo_last 2 (some .long) { frames := 1, cells := 0, slots := 0, locals := 21 } [.ref (g 0), .int (ii v1)] (moL D g S) (fun _ : Unit => (.returned (some (.long r)), True, (moL D g S9))) := by
  refine jc_of rfl (Nat.le_of_ble_eq_true rfl) ?_
  intro X hl hR hN ok hnm fin
  subst hl
  have B_14 : ∀ (v1 : Int) (t0 : Int) (S : MS), q_Mo_last_14 v1 t0 S = some (r, S9) → jw X 0 0 (moL D g S) [(0, .ref (g 0)), (1, .int (ii v1))] 14 [.int (ii t0), .ref (g 0)] := by
    intro v1 t0 S hs
    rw [q_Mo_last_14] at hs
    refine jr_put (moL D g (MS.w_m_code S t0)) ok 0 f_Mo_101 rfl rfl rfl (Nat.le_of_ble_eq_true rfl) rfl d_Mo_last_14 ?_
    refine jr_aload_n ok 0 d_Mo_last_17 rfl rfl ?_
    refine jr_get (v := .int (ii t0)) ok 0 f_Mo_101 rfl rfl d_Mo_last_18 ?_
    refine jr_wif_le 28 ok rfl d_Mo_last_21 (by decide) (fun c5 => ?_) (fun c5 => ?_)
    · replace hs := oq_pos c5 hs
      refine jr_aload_n ok 0 d_Mo_last_28 rfl rfl ?_
      refine jr_get (v := .ref (g 4)) ok 0 f_Mo_22 rfl rfl d_Mo_last_29 ?_
      refine jr_iload_n ok 1 d_Mo_last_32 rfl rfl ?_
      obtain ⟨hb6, hs⟩ := oq_if hs
      refine jr_lald ok 4 rfl rfl hb6.1 hb6.2 d_Mo_last_33 ?_
      show jw X 0 0 (moL D g (MS.w_m_code S t0)) [(0, .ref (g 0)), (1, .int (ii v1))] 34 [.long (S.m_lasts v1)]
      exact jm_lret (Lf := moL D g) ok fin hs d_Mo_last_34
    · replace hs := oq_neg c5 hs
      refine jr_lconst (z := 0) ok d_Mo_last_24 (by decide +kernel) ?_
      refine jr_goto 34 ok d_Mo_last_25 (by decide) ?_
      exact jm_lret (Lf := moL D g) ok fin hs d_Mo_last_34
  show jw X 0 0 (moL D g S) [(0, .ref (g 0)), (1, .int (ii v1))] 0 []
  rw [s_Mo_last] at hs
  refine jr_aload_n ok 0 d_Mo_last_0 rfl rfl ?_
  refine jr_aload_n ok 0 d_Mo_last_1 rfl rfl ?_
  refine jr_iload_n ok 1 d_Mo_last_2 rfl rfl ?_
  obtain ⟨r7, S7, hc7, hs⟩ := mb2_some hs
  refine jr_mV1 ok hR m_Mo_149 (c_Mo_isSeries (jx_l X) D g S v1 r7 S7 hc7) rfl rfl rfl rfl (Nat.le_of_ble_eq_true rfl) ⟨Nat.le_of_ble_eq_true rfl, Nat.le_of_ble_eq_true rfl⟩ ⟨Nat.zero_le _, Nat.zero_le _⟩ d_Mo_last_3 ?_
  refine jr_wif_eq 13 ok rfl d_Mo_last_6 (by decide) (fun c8 => ?_) (fun c8 => ?_)
  · replace hs := oq_pos c8 hs
    refine jr_iconst ok d_Mo_last_13 ?_
    exact jr_lv [0, 1] rfl (B_14 v1 1 S7 hs)
  · replace hs := oq_neg c8 hs
    refine jr_iconst ok d_Mo_last_9 ?_
    refine jr_goto 14 ok d_Mo_last_10 (by decide) ?_
    exact jr_lv [0, 1] rfl (B_14 v1 0 S7 hs)

def q_Mo_bulk_88 (v2 : Int) (S : MS) : Option (Int × MS) := some (v2, MS.w_m_length S 0)

def q_Mo_bulk_28 : Nat → Int → Int → MS → Option (Int × MS)
  | 0, _, _, _ => none
  | n + 1, v1, v2, S => if w32 S.m_length < w32 ((16 * v2) + 16) then q_Mo_bulk_88 v2 S else mb2 (s_Mo_numberAt S (16 * v2)) (fun r13 S13 => mb2 (s_Mo_why S13 v1 r13) (fun r14 S14 => if w32 r14 = 0 then mb2 (s_Mo_numberAt S14 (16 * v2)) (fun r16 S16 => mb2 (s_Mo_numberAt S16 ((16 * v2) + 8)) (fun r17 S17 => mb2 (s_Mo_come S17 v1 r16 r17) (fun r18 S18 => (q_Mo_bulk_28 n) v1 (v2 + 1) S18))) else q_Mo_bulk_88 v2 S14))

def q_Mo_bulk_14 (v1 : Int) (t0 : Int) (S : MS) : Option (Int × MS) := if w32 t0 ≤ 0 then q_Mo_bulk_28 fU v1 0 (MS.w_m_code S t0) else some (0, MS.w_m_code S t0)

def s_Mo_bulk (S : MS) (v1 : Int) : Option (Int × MS) := mb2 (s_Mo_isSeries S v1) (fun r19 S19 => if w32 r19 = 0 then q_Mo_bulk_14 v1 1 S19 else q_Mo_bulk_14 v1 0 S19)
set_option maxHeartbeats 4000000 in
set_option maxRecDepth 100000 in
theorem c_Mo_bulk (l : Launch) (D : jd_T) (g : Nat → Nat) (S : MS) (v1 : Int) (r : Int) (S9 : MS) (hs : s_Mo_bulk S v1 = some (r, S9)) : jc_C l D y_Mo_bulk b_Mo_bulk 3 (some .int) { frames := 1, cells := 0, slots := 0, locals := 25 } [.ref (g 0), .int (ii v1)] (moL D g S) (fun _ : Unit => (.returned (some (.int (ii r))), True, (moL D g S9))) := by
  refine jc_of rfl (Nat.le_of_ble_eq_true rfl) ?_
  intro X hl hR hN ok hnm fin
  subst hl
  have B_88 : ∀ (v2 : Int) (S : MS), q_Mo_bulk_88 v2 S = some (r, S9) → jw X 0 0 (moL D g S) [(0, .ref (g 0)), (2, .int (ii v2))] 88 [] := by
    intro v2 S hs
    rw [q_Mo_bulk_88] at hs
    refine jr_aload_n ok 0 d_Mo_bulk_88 rfl rfl ?_
    refine jr_iconst ok d_Mo_bulk_89 ?_
    refine jr_put (moL D g (MS.w_m_length S 0)) ok 0 f_Mo_105 rfl rfl rfl (Nat.le_of_ble_eq_true rfl) rfl d_Mo_bulk_90 ?_
    refine jr_iload_n ok 1 d_Mo_bulk_93 rfl rfl ?_
    exact jm_iret (Lf := moL D g) ok fin hs d_Mo_bulk_94
  have B_28 : ∀ (n28 : Nat), ∀ (v1 : Int) (v2 : Int) (S : MS), q_Mo_bulk_28 n28 v1 v2 S = some (r, S9) → jw X 0 0 (moL D g S) [(0, .ref (g 0)), (1, .int (ii v1)), (2, .int (ii v2))] 28 [] := by
    intro n28
    induction n28 with
    | zero =>
      intro v1 v2 S hs
      rw [q_Mo_bulk_28] at hs; cases hs
    | succ n28 ih28 =>
      intro v1 v2 S hs
      rw [q_Mo_bulk_28] at hs
      refine jr_bipush ok d_Mo_bulk_28 (by decide +kernel) ?_
      refine jr_iload_n ok 2 d_Mo_bulk_30 rfl rfl ?_
      refine jr_imul ok d_Mo_bulk_31 ?_
      refine jr_bipush ok d_Mo_bulk_32 (by decide +kernel) ?_
      refine jr_iadd ok d_Mo_bulk_34 ?_
      refine jr_aload_n ok 0 d_Mo_bulk_35 rfl rfl ?_
      refine jr_get (v := .int (ii S.m_length)) ok 0 f_Mo_105 rfl rfl d_Mo_bulk_36 ?_
      refine jr_wicmp_gt 88 ok rfl rfl d_Mo_bulk_39 (by decide) (fun c12 => ?_) (fun c12 => ?_)
      · replace hs := oq_pos c12 hs
        exact jr_lv [0, 2] rfl (B_88 v2 S hs)
      · replace hs := oq_neg c12 hs
        refine jr_aload_n ok 0 d_Mo_bulk_42 rfl rfl ?_
        refine jr_iload_n ok 1 d_Mo_bulk_43 rfl rfl ?_
        refine jr_aload_n ok 0 d_Mo_bulk_44 rfl rfl ?_
        refine jr_bipush ok d_Mo_bulk_45 (by decide +kernel) ?_
        refine jr_iload_n ok 2 d_Mo_bulk_47 rfl rfl ?_
        refine jr_imul ok d_Mo_bulk_48 ?_
        obtain ⟨r13, S13, hc13, hs⟩ := mb2_some hs
        refine jr_mV1 ok hR m_Mo_172 (c_Mo_numberAt (jx_l X) D g S (16 * v2) r13 S13 hc13) rfl rfl rfl rfl (Nat.le_of_ble_eq_true rfl) ⟨Nat.le_of_ble_eq_true rfl, Nat.le_of_ble_eq_true rfl⟩ ⟨Nat.zero_le _, Nat.zero_le _⟩ d_Mo_bulk_49 ?_
        obtain ⟨r14, S14, hc14, hs⟩ := mb2_some hs
        refine jr_mV1 ok hR m_Mo_164 (c_Mo_why (jx_l X) D g S13 v1 r13 r14 S14 hc14) rfl rfl rfl rfl (Nat.le_of_ble_eq_true rfl) ⟨Nat.le_of_ble_eq_true rfl, Nat.le_of_ble_eq_true rfl⟩ ⟨Nat.zero_le _, Nat.zero_le _⟩ d_Mo_bulk_52 ?_
        refine jr_wif_ne 88 ok rfl d_Mo_bulk_55 (by decide) (fun c15 => ?_) (fun c15 => ?_)
        · replace hs := oq_neg c15 hs
          exact jr_lv [0, 2] rfl (B_88 v2 S14 hs)
        · replace hs := oq_pos c15 hs
          refine jr_aload_n ok 0 d_Mo_bulk_58 rfl rfl ?_
          refine jr_iload_n ok 1 d_Mo_bulk_59 rfl rfl ?_
          refine jr_aload_n ok 0 d_Mo_bulk_60 rfl rfl ?_
          refine jr_bipush ok d_Mo_bulk_61 (by decide +kernel) ?_
          refine jr_iload_n ok 2 d_Mo_bulk_63 rfl rfl ?_
          refine jr_imul ok d_Mo_bulk_64 ?_
          obtain ⟨r16, S16, hc16, hs⟩ := mb2_some hs
          refine jr_mV1 ok hR m_Mo_172 (c_Mo_numberAt (jx_l X) D g S14 (16 * v2) r16 S16 hc16) rfl rfl rfl rfl (Nat.le_of_ble_eq_true rfl) ⟨Nat.le_of_ble_eq_true rfl, Nat.le_of_ble_eq_true rfl⟩ ⟨Nat.zero_le _, Nat.zero_le _⟩ d_Mo_bulk_65 ?_
          refine jr_aload_n ok 0 d_Mo_bulk_68 rfl rfl ?_
          refine jr_bipush ok d_Mo_bulk_69 (by decide +kernel) ?_
          refine jr_iload_n ok 2 d_Mo_bulk_71 rfl rfl ?_
          refine jr_imul ok d_Mo_bulk_72 ?_
          refine jr_bipush ok d_Mo_bulk_73 (by decide +kernel) ?_
          refine jr_iadd ok d_Mo_bulk_75 ?_
          obtain ⟨r17, S17, hc17, hs⟩ := mb2_some hs
          refine jr_mV1 ok hR m_Mo_172 (c_Mo_numberAt (jx_l X) D g S16 ((16 * v2) + 8) r17 S17 hc17) rfl rfl rfl rfl (Nat.le_of_ble_eq_true rfl) ⟨Nat.le_of_ble_eq_true rfl, Nat.le_of_ble_eq_true rfl⟩ ⟨Nat.zero_le _, Nat.zero_le _⟩ d_Mo_bulk_76 ?_
          obtain ⟨r18, S18, hc18, hs⟩ := mb2_some hs
          refine jr_mV0 ok hR m_Mo_168 (c_Mo_come (jx_l X) D g S17 v1 r16 r17 r18 S18 hc18) rfl rfl rfl rfl (Nat.le_of_ble_eq_true rfl) ⟨Nat.le_of_ble_eq_true rfl, Nat.le_of_ble_eq_true rfl⟩ ⟨Nat.zero_le _, Nat.zero_le _⟩ d_Mo_bulk_79 ?_
          refine jr_iinc [(2, .int (ii (v2 + 1))), (0, .ref (g 0)), (1, .int (ii v1))] 2 ok d_Mo_bulk_82 rfl (by rw [hN]; decide) rfl ?_
          refine jr_goto 28 ok d_Mo_bulk_85 (by decide) ?_
          exact jr_lv [1, 2, 0] rfl (ih28 v1 (v2 + 1) S18 hs)
  have B_14 : ∀ (v1 : Int) (t0 : Int) (S : MS), q_Mo_bulk_14 v1 t0 S = some (r, S9) → jw X 0 0 (moL D g S) [(0, .ref (g 0)), (1, .int (ii v1))] 14 [.int (ii t0), .ref (g 0)] := by
    intro v1 t0 S hs
    rw [q_Mo_bulk_14] at hs
    refine jr_put (moL D g (MS.w_m_code S t0)) ok 0 f_Mo_101 rfl rfl rfl (Nat.le_of_ble_eq_true rfl) rfl d_Mo_bulk_14 ?_
    refine jr_aload_n ok 0 d_Mo_bulk_17 rfl rfl ?_
    refine jr_get (v := .int (ii t0)) ok 0 f_Mo_101 rfl rfl d_Mo_bulk_18 ?_
    refine jr_wif_le 26 ok rfl d_Mo_bulk_21 (by decide) (fun c11 => ?_) (fun c11 => ?_)
    · replace hs := oq_pos c11 hs
      refine jr_iconst ok d_Mo_bulk_26 ?_
      refine jr_istore_n [(2, .int (ii 0)), (0, .ref (g 0)), (1, .int (ii v1))] ok d_Mo_bulk_27 rfl (by rw [hN]; decide) rfl ?_
      exact jr_lv [1, 2, 0] rfl (B_28 fU v1 0 (MS.w_m_code S t0) hs)
    · replace hs := oq_neg c11 hs
      refine jr_iconst ok d_Mo_bulk_24 ?_
      exact jm_iret (Lf := moL D g) ok fin hs d_Mo_bulk_25
  show jw X 0 0 (moL D g S) [(0, .ref (g 0)), (1, .int (ii v1))] 0 []
  rw [s_Mo_bulk] at hs
  refine jr_aload_n ok 0 d_Mo_bulk_0 rfl rfl ?_
  refine jr_aload_n ok 0 d_Mo_bulk_1 rfl rfl ?_
  refine jr_iload_n ok 1 d_Mo_bulk_2 rfl rfl ?_
  obtain ⟨r19, S19, hc19, hs⟩ := mb2_some hs
  refine jr_mV1 ok hR m_Mo_149 (c_Mo_isSeries (jx_l X) D g S v1 r19 S19 hc19) rfl rfl rfl rfl (Nat.le_of_ble_eq_true rfl) ⟨Nat.le_of_ble_eq_true rfl, Nat.le_of_ble_eq_true rfl⟩ ⟨Nat.zero_le _, Nat.zero_le _⟩ d_Mo_bulk_3 ?_
  refine jr_wif_eq 13 ok rfl d_Mo_bulk_6 (by decide) (fun c20 => ?_) (fun c20 => ?_)
  · replace hs := oq_pos c20 hs
    refine jr_iconst ok d_Mo_bulk_13 ?_
    exact jr_lv [0, 1] rfl (B_14 v1 1 S19 hs)
  · replace hs := oq_neg c20 hs
    refine jr_iconst ok d_Mo_bulk_9 ?_
    refine jr_goto 14 ok d_Mo_bulk_10 (by decide) ?_
    exact jr_lv [0, 1] rfl (B_14 v1 0 S19 hs)

def q_Mo_compareRows_156 (k3 : Int → Int → Int → Int → MS → Option (Int × MS)) (v1 : Int) (v2 : Int) (v3 : Int) (v4 : Int) (v6 : Int) (v8 : Int) (S : MS) : Option (Int × MS) := if w32 v6 = w32 v8 then k3 v1 v2 v3 (v4 + 1) S else some (v6 - v8, S)

def q_Mo_compareRows_91 (k3 : Int → Int → Int → Int → MS → Option (Int × MS)) : Nat → Int → Int → Int → Int → Int → Int → Int → Int → Int → MS → Option (Int × MS)
  | 0, _, _, _, _, _, _, _, _, _, _ => none
  | n + 1, v1, v2, v3, v4, v5, v6, v7, v8, v9, S => if w32 v6 ≤ w32 v9 then q_Mo_compareRows_156 k3 v1 v2 v3 v4 v6 v8 S else if w32 v8 ≤ w32 v9 then q_Mo_compareRows_156 k3 v1 v2 v3 v4 v6 v8 S else if (0 : Int) ≤ (v5 + v9) ∧ (v5 + v9) < (78128 : Int) then if (0 : Int) ≤ (v7 + v9) ∧ (v7 + v9) < (78128 : Int) then if w32 (S.m_texts (v5 + v9)) = w32 (S.m_texts (v7 + v9)) then (q_Mo_compareRows_91 k3 n) v1 v2 v3 v4 v5 v6 v7 v8 (v9 + 1) S else if (0 : Int) ≤ (v5 + v9) ∧ (v5 + v9) < (78128 : Int) then if (0 : Int) ≤ (v7 + v9) ∧ (v7 + v9) < (78128 : Int) then some ((S.m_texts (v5 + v9)) - (S.m_texts (v7 + v9)), S) else none else none else none else none

def q_Mo_compareRows_3 : Nat → Int → Int → Int → Int → MS → Option (Int × MS)
  | 0, _, _, _, _, _ => none
  | n + 1, v1, v2, v3, v4, S => if (0 : Int) ≤ v1 ∧ v1 < (20 : Int) then if w32 (S.m_tableNames v1) ≤ w32 v4 then some (0, S) else if (0 : Int) ≤ ((6 * v1) + v4) ∧ ((6 * v1) + v4) < (120 : Int) then if (0 : Int) ≤ ((6 * v1) + v4) ∧ ((6 * v1) + v4) < (120 : Int) then mb2 (s_Mo_valueOf S v2 (S.m_nameFroms ((6 * v1) + v4)) (S.m_nameLengths ((6 * v1) + v4))) (fun r21 S21 => if (0 : Int) ≤ ((6 * v1) + v4) ∧ ((6 * v1) + v4) < (120 : Int) then if (0 : Int) ≤ ((6 * v1) + v4) ∧ ((6 * v1) + v4) < (120 : Int) then mb2 (s_Mo_valueOf S21 v3 (S21.m_nameFroms ((6 * v1) + v4)) (S21.m_nameLengths ((6 * v1) + v4))) (fun r24 S24 => q_Mo_compareRows_91 (q_Mo_compareRows_3 n) fU v1 v2 v3 v4 r21 S21.m_valueLength r24 S24.m_valueLength 0 S24) else none else none) else none else none else none

def s_Mo_compareRows (S : MS) (v1 : Int) (v2 : Int) (v3 : Int) : Option (Int × MS) := q_Mo_compareRows_3 fU v1 v2 v3 0 S
set_option maxHeartbeats 4000000 in
set_option maxRecDepth 100000 in
theorem c_Mo_compareRows (l : Launch) (D : jd_T) (g : Nat → Nat) (S : MS) (v1 : Int) (v2 : Int) (v3 : Int) (r : Int) (S9 : MS) (hs : s_Mo_compareRows S v1 v2 v3 = some (r, S9)) : jc_C l D y_Mo_compareRows b_Mo_compareRows 10 (some .int) { frames := 1, cells := 0, slots := 0, locals := 29 } [.ref (g 0), .int (ii v1), .int (ii v2), .int (ii v3)] (moL D g S) (fun _ : Unit => (.returned (some (.int (ii r))), True, (moL D g S9))) := by
  refine jc_of rfl (Nat.le_of_ble_eq_true rfl) ?_
  intro X hl hR hN ok hnm fin
  subst hl
  have B_3 : ∀ (n3 : Nat), ∀ (v1 : Int) (v2 : Int) (v3 : Int) (v4 : Int) (S : MS), q_Mo_compareRows_3 n3 v1 v2 v3 v4 S = some (r, S9) → jw X 0 0 (moL D g S) [(0, .ref (g 0)), (1, .int (ii v1)), (2, .int (ii v2)), (3, .int (ii v3)), (4, .int (ii v4))] 3 [] := by
    intro n3
    induction n3 with
    | zero =>
      intro v1 v2 v3 v4 S hs
      rw [q_Mo_compareRows_3] at hs; cases hs
    | succ n3 ih3 =>
      have B_156 : ∀ (v1 : Int) (v2 : Int) (v3 : Int) (v4 : Int) (v6 : Int) (v8 : Int) (S : MS), q_Mo_compareRows_156 (q_Mo_compareRows_3 n3) v1 v2 v3 v4 v6 v8 S = some (r, S9) → jw X 0 0 (moL D g S) [(0, .ref (g 0)), (1, .int (ii v1)), (2, .int (ii v2)), (3, .int (ii v3)), (4, .int (ii v4)), (6, .int (ii v6)), (8, .int (ii v8))] 156 [] := by
        intro v1 v2 v3 v4 v6 v8 S hs
        rw [q_Mo_compareRows_156] at hs
        refine jr_iload ok 5 d_Mo_compareRows_156 rfl ?_
        refine jr_iload ok 6 d_Mo_compareRows_158 rfl ?_
        refine jr_wicmp_eq 169 ok rfl rfl d_Mo_compareRows_160 (by decide) (fun c32 => ?_) (fun c32 => ?_)
        · replace hs := oq_pos c32 hs
          refine jr_iinc [(4, .int (ii (v4 + 1))), (0, .ref (g 0)), (1, .int (ii v1)), (2, .int (ii v2)), (3, .int (ii v3)), (6, .int (ii v6)), (8, .int (ii v8))] 4 ok d_Mo_compareRows_169 rfl (by rw [hN]; decide) rfl ?_
          refine jr_goto 3 ok d_Mo_compareRows_172 (by decide) ?_
          exact jr_lv [1, 2, 3, 4, 0] rfl (ih3 v1 v2 v3 (v4 + 1) S hs)
        · replace hs := oq_neg c32 hs
          refine jr_iload ok 5 d_Mo_compareRows_163 rfl ?_
          refine jr_iload ok 6 d_Mo_compareRows_165 rfl ?_
          refine jr_isub ok d_Mo_compareRows_167 ?_
          exact jm_iret (Lf := moL D g) ok fin hs d_Mo_compareRows_168
      have B_91 : ∀ (n91 : Nat), ∀ (v1 : Int) (v2 : Int) (v3 : Int) (v4 : Int) (v5 : Int) (v6 : Int) (v7 : Int) (v8 : Int) (v9 : Int) (S : MS), q_Mo_compareRows_91 (q_Mo_compareRows_3 n3) n91 v1 v2 v3 v4 v5 v6 v7 v8 v9 S = some (r, S9) → jw X 0 0 (moL D g S) [(0, .ref (g 0)), (1, .int (ii v1)), (2, .int (ii v2)), (3, .int (ii v3)), (4, .int (ii v4)), (5, .int (ii v5)), (6, .int (ii v6)), (7, .int (ii v7)), (8, .int (ii v8)), (9, .int (ii v9))] 91 [] := by
        intro n91
        induction n91 with
        | zero =>
          intro v1 v2 v3 v4 v5 v6 v7 v8 v9 S hs
          rw [q_Mo_compareRows_91] at hs; cases hs
        | succ n91 ih91 =>
          intro v1 v2 v3 v4 v5 v6 v7 v8 v9 S hs
          rw [q_Mo_compareRows_91] at hs
          refine jr_iload ok 9 d_Mo_compareRows_91 rfl ?_
          refine jr_iload ok 6 d_Mo_compareRows_93 rfl ?_
          refine jr_wicmp_ge 156 ok rfl rfl d_Mo_compareRows_95 (by decide) (fun c25 => ?_) (fun c25 => ?_)
          · replace hs := oq_pos c25 hs
            exact jr_lv [0, 1, 2, 3, 4, 6, 8] rfl (B_156 v1 v2 v3 v4 v6 v8 S hs)
          · replace hs := oq_neg c25 hs
            refine jr_iload ok 9 d_Mo_compareRows_98 rfl ?_
            refine jr_iload ok 8 d_Mo_compareRows_100 rfl ?_
            refine jr_wicmp_ge 156 ok rfl rfl d_Mo_compareRows_102 (by decide) (fun c26 => ?_) (fun c26 => ?_)
            · replace hs := oq_pos c26 hs
              exact jr_lv [0, 1, 2, 3, 4, 6, 8] rfl (B_156 v1 v2 v3 v4 v6 v8 S hs)
            · replace hs := oq_neg c26 hs
              refine jr_aload_n ok 0 d_Mo_compareRows_105 rfl rfl ?_
              refine jr_get (v := .ref (g 2)) ok 0 f_Mo_15 rfl rfl d_Mo_compareRows_106 ?_
              refine jr_iload ok 5 d_Mo_compareRows_109 rfl ?_
              refine jr_iload ok 9 d_Mo_compareRows_111 rfl ?_
              refine jr_iadd ok d_Mo_compareRows_113 ?_
              obtain ⟨hb27, hs⟩ := oq_if hs
              refine jr_bald ok 2 rfl rfl hb27.1 hb27.2 d_Mo_compareRows_114 ?_
              refine jr_aload_n ok 0 d_Mo_compareRows_115 rfl rfl ?_
              refine jr_get (v := .ref (g 2)) ok 0 f_Mo_15 rfl rfl d_Mo_compareRows_116 ?_
              refine jr_iload ok 7 d_Mo_compareRows_119 rfl ?_
              refine jr_iload ok 9 d_Mo_compareRows_121 rfl ?_
              refine jr_iadd ok d_Mo_compareRows_123 ?_
              obtain ⟨hb28, hs⟩ := oq_if hs
              refine jr_bald ok 2 rfl rfl hb28.1 hb28.2 d_Mo_compareRows_124 ?_
              refine jr_wicmp_eq 150 ok rfl rfl d_Mo_compareRows_125 (by decide) (fun c29 => ?_) (fun c29 => ?_)
              · replace hs := oq_pos c29 hs
                refine jr_iinc [(9, .int (ii (v9 + 1))), (0, .ref (g 0)), (1, .int (ii v1)), (2, .int (ii v2)), (3, .int (ii v3)), (4, .int (ii v4)), (5, .int (ii v5)), (6, .int (ii v6)), (7, .int (ii v7)), (8, .int (ii v8))] 9 ok d_Mo_compareRows_150 rfl (by rw [hN]; decide) rfl ?_
                refine jr_goto 91 ok d_Mo_compareRows_153 (by decide) ?_
                exact jr_lv [1, 2, 3, 4, 5, 6, 7, 8, 9, 0] rfl (ih91 v1 v2 v3 v4 v5 v6 v7 v8 (v9 + 1) S hs)
              · replace hs := oq_neg c29 hs
                refine jr_aload_n ok 0 d_Mo_compareRows_128 rfl rfl ?_
                refine jr_get (v := .ref (g 2)) ok 0 f_Mo_15 rfl rfl d_Mo_compareRows_129 ?_
                refine jr_iload ok 5 d_Mo_compareRows_132 rfl ?_
                refine jr_iload ok 9 d_Mo_compareRows_134 rfl ?_
                refine jr_iadd ok d_Mo_compareRows_136 ?_
                obtain ⟨hb30, hs⟩ := oq_if hs
                refine jr_bald ok 2 rfl rfl hb30.1 hb30.2 d_Mo_compareRows_137 ?_
                refine jr_aload_n ok 0 d_Mo_compareRows_138 rfl rfl ?_
                refine jr_get (v := .ref (g 2)) ok 0 f_Mo_15 rfl rfl d_Mo_compareRows_139 ?_
                refine jr_iload ok 7 d_Mo_compareRows_142 rfl ?_
                refine jr_iload ok 9 d_Mo_compareRows_144 rfl ?_
                refine jr_iadd ok d_Mo_compareRows_146 ?_
                obtain ⟨hb31, hs⟩ := oq_if hs
                refine jr_bald ok 2 rfl rfl hb31.1 hb31.2 d_Mo_compareRows_147 ?_
                refine jr_isub ok d_Mo_compareRows_148 ?_
                exact jm_iret (Lf := moL D g) ok fin hs d_Mo_compareRows_149
      intro v1 v2 v3 v4 S hs
      rw [q_Mo_compareRows_3] at hs
      refine jr_iload ok 4 d_Mo_compareRows_3 rfl ?_
      refine jr_aload_n ok 0 d_Mo_compareRows_5 rfl rfl ?_
      refine jr_get (v := .ref (g 10)) ok 0 f_Mo_41 rfl rfl d_Mo_compareRows_6 ?_
      refine jr_iload_n ok 1 d_Mo_compareRows_9 rfl rfl ?_
      obtain ⟨hb17, hs⟩ := oq_if hs
      refine jr_iald ok 10 rfl rfl hb17.1 hb17.2 d_Mo_compareRows_10 ?_
      refine jr_wicmp_ge 175 ok rfl rfl d_Mo_compareRows_11 (by decide) (fun c18 => ?_) (fun c18 => ?_)
      · replace hs := oq_pos c18 hs
        refine jr_iconst ok d_Mo_compareRows_175 ?_
        exact jm_iret (Lf := moL D g) ok fin hs d_Mo_compareRows_176
      · replace hs := oq_neg c18 hs
        refine jr_aload_n ok 0 d_Mo_compareRows_14 rfl rfl ?_
        refine jr_iload_n ok 2 d_Mo_compareRows_15 rfl rfl ?_
        refine jr_aload_n ok 0 d_Mo_compareRows_16 rfl rfl ?_
        refine jr_get (v := .ref (g 11)) ok 0 f_Mo_44 rfl rfl d_Mo_compareRows_17 ?_
        refine jr_bipush ok d_Mo_compareRows_20 (by decide +kernel) ?_
        refine jr_iload_n ok 1 d_Mo_compareRows_22 rfl rfl ?_
        refine jr_imul ok d_Mo_compareRows_23 ?_
        refine jr_iload ok 4 d_Mo_compareRows_24 rfl ?_
        refine jr_iadd ok d_Mo_compareRows_26 ?_
        obtain ⟨hb19, hs⟩ := oq_if hs
        refine jr_iald ok 11 rfl rfl hb19.1 hb19.2 d_Mo_compareRows_27 ?_
        refine jr_aload_n ok 0 d_Mo_compareRows_28 rfl rfl ?_
        refine jr_get (v := .ref (g 12)) ok 0 f_Mo_47 rfl rfl d_Mo_compareRows_29 ?_
        refine jr_bipush ok d_Mo_compareRows_32 (by decide +kernel) ?_
        refine jr_iload_n ok 1 d_Mo_compareRows_34 rfl rfl ?_
        refine jr_imul ok d_Mo_compareRows_35 ?_
        refine jr_iload ok 4 d_Mo_compareRows_36 rfl ?_
        refine jr_iadd ok d_Mo_compareRows_38 ?_
        obtain ⟨hb20, hs⟩ := oq_if hs
        refine jr_iald ok 12 rfl rfl hb20.1 hb20.2 d_Mo_compareRows_39 ?_
        obtain ⟨r21, S21, hc21, hs⟩ := mb2_some hs
        refine jr_mV1 ok hR m_Mo_240 (c_Mo_valueOf (jx_l X) D g S v2 (S.m_nameFroms ((6 * v1) + v4)) (S.m_nameLengths ((6 * v1) + v4)) r21 S21 hc21) rfl rfl rfl rfl (Nat.le_of_ble_eq_true rfl) ⟨Nat.le_of_ble_eq_true rfl, Nat.le_of_ble_eq_true rfl⟩ ⟨Nat.zero_le _, Nat.zero_le _⟩ d_Mo_compareRows_40 ?_
        refine jr_istore [(5, .int (ii r21)), (0, .ref (g 0)), (1, .int (ii v1)), (2, .int (ii v2)), (3, .int (ii v3)), (4, .int (ii v4))] ok d_Mo_compareRows_43 (by rw [hN]; decide) rfl ?_
        refine jr_aload_n ok 1 d_Mo_compareRows_45 rfl rfl ?_
        refine jr_get (v := .int (ii S21.m_valueLength)) ok 0 f_Mo_237 rfl rfl d_Mo_compareRows_46 ?_
        refine jr_istore [(6, .int (ii S21.m_valueLength)), (5, .int (ii r21)), (0, .ref (g 0)), (1, .int (ii v1)), (2, .int (ii v2)), (3, .int (ii v3)), (4, .int (ii v4))] ok d_Mo_compareRows_49 (by rw [hN]; decide) rfl ?_
        refine jr_aload_n ok 2 d_Mo_compareRows_51 rfl rfl ?_
        refine jr_iload_n ok 5 d_Mo_compareRows_52 rfl rfl ?_
        refine jr_aload_n ok 2 d_Mo_compareRows_53 rfl rfl ?_
        refine jr_get (v := .ref (g 11)) ok 0 f_Mo_44 rfl rfl d_Mo_compareRows_54 ?_
        refine jr_bipush ok d_Mo_compareRows_57 (by decide +kernel) ?_
        refine jr_iload_n ok 3 d_Mo_compareRows_59 rfl rfl ?_
        refine jr_imul ok d_Mo_compareRows_60 ?_
        refine jr_iload ok 6 d_Mo_compareRows_61 rfl ?_
        refine jr_iadd ok d_Mo_compareRows_63 ?_
        obtain ⟨hb22, hs⟩ := oq_if hs
        refine jr_iald ok 11 rfl rfl hb22.1 hb22.2 d_Mo_compareRows_64 ?_
        refine jr_aload_n ok 2 d_Mo_compareRows_65 rfl rfl ?_
        refine jr_get (v := .ref (g 12)) ok 0 f_Mo_47 rfl rfl d_Mo_compareRows_66 ?_
        refine jr_bipush ok d_Mo_compareRows_69 (by decide +kernel) ?_
        refine jr_iload_n ok 3 d_Mo_compareRows_71 rfl rfl ?_
        refine jr_imul ok d_Mo_compareRows_72 ?_
        refine jr_iload ok 6 d_Mo_compareRows_73 rfl ?_
        refine jr_iadd ok d_Mo_compareRows_75 ?_
        obtain ⟨hb23, hs⟩ := oq_if hs
        refine jr_iald ok 12 rfl rfl hb23.1 hb23.2 d_Mo_compareRows_76 ?_
        obtain ⟨r24, S24, hc24, hs⟩ := mb2_some hs
        refine jr_mV1 ok hR m_Mo_240 (c_Mo_valueOf (jx_l X) D g S21 v3 (S21.m_nameFroms ((6 * v1) + v4)) (S21.m_nameLengths ((6 * v1) + v4)) r24 S24 hc24) rfl rfl rfl rfl (Nat.le_of_ble_eq_true rfl) ⟨Nat.le_of_ble_eq_true rfl, Nat.le_of_ble_eq_true rfl⟩ ⟨Nat.zero_le _, Nat.zero_le _⟩ d_Mo_compareRows_77 ?_
        refine jr_istore [(7, .int (ii r24)), (6, .int (ii S21.m_valueLength)), (5, .int (ii r21)), (0, .ref (g 0)), (1, .int (ii v1)), (2, .int (ii v2)), (3, .int (ii v3)), (4, .int (ii v4))] ok d_Mo_compareRows_80 (by rw [hN]; decide) rfl ?_
        refine jr_aload_n ok 3 d_Mo_compareRows_82 rfl rfl ?_
        refine jr_get (v := .int (ii S24.m_valueLength)) ok 0 f_Mo_237 rfl rfl d_Mo_compareRows_83 ?_
        refine jr_istore [(8, .int (ii S24.m_valueLength)), (7, .int (ii r24)), (6, .int (ii S21.m_valueLength)), (5, .int (ii r21)), (0, .ref (g 0)), (1, .int (ii v1)), (2, .int (ii v2)), (3, .int (ii v3)), (4, .int (ii v4))] ok d_Mo_compareRows_86 (by rw [hN]; decide) rfl ?_
        refine jr_iconst ok d_Mo_compareRows_88 ?_
        refine jr_istore [(9, .int (ii 0)), (8, .int (ii S24.m_valueLength)), (7, .int (ii r24)), (6, .int (ii S21.m_valueLength)), (5, .int (ii r21)), (0, .ref (g 0)), (1, .int (ii v1)), (2, .int (ii v2)), (3, .int (ii v3)), (4, .int (ii v4))] ok d_Mo_compareRows_89 (by rw [hN]; decide) rfl ?_
        exact jr_lv [5, 6, 7, 8, 9, 4, 3, 2, 1, 0] rfl (B_91 fU v1 v2 v3 v4 r21 S21.m_valueLength r24 S24.m_valueLength 0 S24 hs)
  show jw X 0 0 (moL D g S) [(0, .ref (g 0)), (1, .int (ii v1)), (2, .int (ii v2)), (3, .int (ii v3))] 0 []
  rw [s_Mo_compareRows] at hs
  refine jr_iconst ok d_Mo_compareRows_0 ?_
  refine jr_istore [(4, .int (ii 0)), (0, .ref (g 0)), (1, .int (ii v1)), (2, .int (ii v2)), (3, .int (ii v3))] ok d_Mo_compareRows_1 (by rw [hN]; decide) rfl ?_
  exact jr_lv [1, 2, 3, 4, 0] rfl (B_3 fU v1 v2 v3 0 S hs)

def q_Mo_spread_231 : Nat → Int → Int → Int → MS → Option (Unit × MS)
  | 0, _, _, _, _ => none
  | n + 1, v2, v3, v6, S => if 6 ≤ w32 v6 then some ((), S) else if (0 : Int) ≤ ((6 * v3) + v6) ∧ ((6 * v3) + v6) < (120 : Int) then if (0 : Int) ≤ ((6 * v2) + v6) ∧ ((6 * v2) + v6) < (120 : Int) then if (0 : Int) ≤ ((6 * v3) + v6) ∧ ((6 * v3) + v6) < (120 : Int) then if (0 : Int) ≤ ((6 * v2) + v6) ∧ ((6 * v2) + v6) < (120 : Int) then (q_Mo_spread_231 n) v2 v3 (v6 + 1) (MS.w_m_nameLengths (MS.w_m_nameFroms S (aU S.m_nameFroms ((6 * v2) + v6) (S.m_nameFroms ((6 * v3) + v6)))) (aU S.m_nameLengths ((6 * v2) + v6) (S.m_nameLengths ((6 * v3) + v6)))) else none else none else none else none

def q_Mo_spread_169 : Nat → Int → Int → Int → Int → MS → Option (Unit × MS)
  | 0, _, _, _, _, _ => none
  | n + 1, v2, v3, v4, v6, S => if w32 v4 ≤ w32 v6 then if (0 : Int) ≤ v2 ∧ v2 < (20 : Int) then if (0 : Int) ≤ v3 ∧ v3 < (20 : Int) then if (0 : Int) ≤ v2 ∧ v2 < (20 : Int) then q_Mo_spread_231 fU v2 v3 0 (MS.w_m_tableNames (MS.w_m_tableRows S (aU S.m_tableRows v2 v4)) (aU S.m_tableNames v2 (S.m_tableNames v3))) else none else none else none else if (0 : Int) ≤ ((256 * v3) + v6) ∧ ((256 * v3) + v6) < (5120 : Int) then if (0 : Int) ≤ ((256 * v2) + v6) ∧ ((256 * v2) + v6) < (5120 : Int) then (q_Mo_spread_169 n) v2 v3 v4 (v6 + 1) (MS.w_m_rowSeries S (aU S.m_rowSeries ((256 * v2) + v6) (S.m_rowSeries ((256 * v3) + v6)))) else none else none

def q_Mo_spread_117 (k107 : Int → Int → Int → Int → Int → Int → MS → Option (Unit × MS)) : Nat → Int → Int → Int → Int → Int → Int → Int → MS → Option (Unit × MS)
  | 0, _, _, _, _, _, _, _, _ => none
  | n + 1, v1, v2, v3, v4, v5, v6, v7, S => if w32 S.m_windows ≤ w32 v7 then k107 v1 v2 v3 v4 v5 (v6 + 1) S else mb2 (s_Mo_cellAt S v2 v6 v7) (fun r44 S44 => mb2 (s_Mo_cellAt S44 v3 v6 v7) (fun r45 S45 => mb2 (s_Mo_join S45 v1 r44 (v5 + v7) r45) (fun r46 S46 => (q_Mo_spread_117 k107 n) v1 v2 v3 v4 v5 v6 (v7 + 1) S46)))

def q_Mo_spread_107 : Nat → Int → Int → Int → Int → Int → Int → MS → Option (Unit × MS)
  | 0, _, _, _, _, _, _, _ => none
  | n + 1, v1, v2, v3, v4, v5, v6, S => if w32 v4 ≤ w32 v6 then q_Mo_spread_169 fU v2 v3 v4 0 S else q_Mo_spread_117 (q_Mo_spread_107 n) fU v1 v2 v3 v4 v5 v6 0 S

def q_Mo_spread_104 (v1 : Int) (v2 : Int) (v3 : Int) (v4 : Int) (v5 : Int) (S : MS) : Option (Unit × MS) := q_Mo_spread_107 fU v1 v2 v3 v4 v5 0 S

def q_Mo_spread_38 : Nat → Int → Int → Int → Int → Int → Int → MS → Option (Unit × MS)
  | 0, _, _, _, _, _, _, _ => none
  | n + 1, v1, v2, v3, v4, v5, v6, S => if w32 S.m_windows ≤ w32 v6 then q_Mo_spread_104 v1 v2 v3 v4 v5 S else if w32 v4 ≤ 0 then q_Mo_spread_104 v1 v2 v3 v4 v5 S else mb2 (s_Mo_cellAt S v2 0 v6) (fun r35 S35 => if (0 : Int) ≤ r35 ∧ r35 < (327680 : Int) then if (0 : Int) ≤ (v5 + v6) ∧ (v5 + v6) < (327680 : Int) then mb2 (s_Mo_cellAt (MS.w_m_cells S35 (aU S35.m_cells (v5 + v6) (S35.m_cells r35))) v2 0 v6) (fun r38 S38 => if (0 : Int) ≤ r38 ∧ r38 < (327680 : Int) then if (0 : Int) ≤ (v5 + v6) ∧ (v5 + v6) < (327680 : Int) then if (S38.m_isCell r38) = 0 ∨ (S38.m_isCell r38) = 1 then (q_Mo_spread_38 n) v1 v2 v3 v4 v5 (v6 + 1) (MS.w_m_isCell S38 (aU S38.m_isCell (v5 + v6) (S38.m_isCell r38))) else none else none else none) else none else none)

def q_Mo_spread_19 (v1 : Int) (v2 : Int) (v3 : Int) (t0 : Int) (S : MS) : Option (Unit × MS) := if (0 : Int) ≤ v3 ∧ v3 < (20 : Int) then mb2 (s_Mo_cellAt S v3 (S.m_tableRows v3) 0) (fun r32 S32 => q_Mo_spread_38 fU v1 v2 v3 t0 r32 0 S32) else none

def s_Mo_spread (S : MS) (v1 : Int) (v2 : Int) (v3 : Int) : Option (Unit × MS) := if (0 : Int) ≤ v2 ∧ v2 < (20 : Int) then if w32 (S.m_tableRows v2) ≤ 0 then q_Mo_spread_19 v1 v2 v3 0 S else if (0 : Int) ≤ v3 ∧ v3 < (20 : Int) then q_Mo_spread_19 v1 v2 v3 (S.m_tableRows v3) S else none else none
set_option maxHeartbeats 4000000 in
set_option maxRecDepth 100000 in
theorem c_Mo_spread (l : Launch) (D : jd_T) (g : Nat → Nat) (S : MS) (v1 : Int) (v2 : Int) (v3 : Int) (r : Unit) (S9 : MS) (hs : s_Mo_spread S v1 v2 v3 = some (r, S9)) : jc_C l D y_Mo_spread b_Mo_spread 8 none { frames := 1, cells := 0, slots := 0, locals := 29 } [.ref (g 0), .int (ii v1), .int (ii v2), .int (ii v3)] (moL D g S) (fun _ : Unit => (.returned (none), True, (moL D g S9))) := by
  refine jc_of rfl (Nat.le_of_ble_eq_true rfl) ?_
  intro X hl hR hN ok hnm fin
  subst hl
  have B_231 : ∀ (n231 : Nat), ∀ (v2 : Int) (v3 : Int) (v6 : Int) (S : MS), q_Mo_spread_231 n231 v2 v3 v6 S = some (r, S9) → jw X 0 0 (moL D g S) [(0, .ref (g 0)), (2, .int (ii v2)), (3, .int (ii v3)), (6, .int (ii v6))] 231 [] := by
    intro n231
    induction n231 with
    | zero =>
      intro v2 v3 v6 S hs
      rw [q_Mo_spread_231] at hs; cases hs
    | succ n231 ih231 =>
      intro v2 v3 v6 S hs
      rw [q_Mo_spread_231] at hs
      refine jr_iload ok 3 d_Mo_spread_231 rfl ?_
      refine jr_bipush ok d_Mo_spread_233 (by decide +kernel) ?_
      refine jr_wicmp_ge 292 ok rfl (show w32 6 = 6 by decide) d_Mo_spread_235 (by decide) (fun c53 => ?_) (fun c53 => ?_)
      · replace hs := oq_pos c53 hs
        exact jm_vret (Lf := moL D g) ok fin hs d_Mo_spread_292
      · replace hs := oq_neg c53 hs
        refine jr_aload_n ok 0 d_Mo_spread_238 rfl rfl ?_
        refine jr_get (v := .ref (g 11)) ok 0 f_Mo_44 rfl rfl d_Mo_spread_239 ?_
        refine jr_bipush ok d_Mo_spread_242 (by decide +kernel) ?_
        refine jr_iload_n ok 1 d_Mo_spread_244 rfl rfl ?_
        refine jr_imul ok d_Mo_spread_245 ?_
        refine jr_iload ok 3 d_Mo_spread_246 rfl ?_
        refine jr_iadd ok d_Mo_spread_248 ?_
        refine jr_aload_n ok 0 d_Mo_spread_249 rfl rfl ?_
        refine jr_get (v := .ref (g 11)) ok 0 f_Mo_44 rfl rfl d_Mo_spread_250 ?_
        refine jr_bipush ok d_Mo_spread_253 (by decide +kernel) ?_
        refine jr_iload_n ok 2 d_Mo_spread_255 rfl rfl ?_
        refine jr_imul ok d_Mo_spread_256 ?_
        refine jr_iload ok 3 d_Mo_spread_257 rfl ?_
        refine jr_iadd ok d_Mo_spread_259 ?_
        obtain ⟨hb54, hs⟩ := oq_if hs
        refine jr_iald ok 11 rfl rfl hb54.1 hb54.2 d_Mo_spread_260 ?_
        obtain ⟨hb55, hs⟩ := oq_if hs
        refine jr_iast (moL D g (MS.w_m_nameFroms S (aU S.m_nameFroms ((6 * v2) + v6) (S.m_nameFroms ((6 * v3) + v6))))) ok 11 rfl rfl hb55.1 hb55.2  rfl d_Mo_spread_261 ?_
        refine jr_aload_n ok 0 d_Mo_spread_262 rfl rfl ?_
        refine jr_get (v := .ref (g 12)) ok 0 f_Mo_47 rfl rfl d_Mo_spread_263 ?_
        refine jr_bipush ok d_Mo_spread_266 (by decide +kernel) ?_
        refine jr_iload_n ok 1 d_Mo_spread_268 rfl rfl ?_
        refine jr_imul ok d_Mo_spread_269 ?_
        refine jr_iload ok 3 d_Mo_spread_270 rfl ?_
        refine jr_iadd ok d_Mo_spread_272 ?_
        refine jr_aload_n ok 0 d_Mo_spread_273 rfl rfl ?_
        refine jr_get (v := .ref (g 12)) ok 0 f_Mo_47 rfl rfl d_Mo_spread_274 ?_
        refine jr_bipush ok d_Mo_spread_277 (by decide +kernel) ?_
        refine jr_iload_n ok 2 d_Mo_spread_279 rfl rfl ?_
        refine jr_imul ok d_Mo_spread_280 ?_
        refine jr_iload ok 3 d_Mo_spread_281 rfl ?_
        refine jr_iadd ok d_Mo_spread_283 ?_
        obtain ⟨hb56, hs⟩ := oq_if hs
        refine jr_iald ok 12 rfl rfl hb56.1 hb56.2 d_Mo_spread_284 ?_
        show jw X 0 0 (moL D g (MS.w_m_nameFroms S (aU S.m_nameFroms ((6 * v2) + v6) (S.m_nameFroms ((6 * v3) + v6))))) [(0, .ref (g 0)), (2, .int (ii v2)), (3, .int (ii v3)), (6, .int (ii v6))] 285 [.int (ii (S.m_nameLengths ((6 * v3) + v6))), .int (ii ((6 * v2) + v6)), .ref (g 12)]
        obtain ⟨hb57, hs⟩ := oq_if hs
        refine jr_iast (moL D g (MS.w_m_nameLengths (MS.w_m_nameFroms S (aU S.m_nameFroms ((6 * v2) + v6) (S.m_nameFroms ((6 * v3) + v6)))) (aU S.m_nameLengths ((6 * v2) + v6) (S.m_nameLengths ((6 * v3) + v6))))) ok 12 rfl rfl hb57.1 hb57.2  rfl d_Mo_spread_285 ?_
        refine jr_iinc [(6, .int (ii (v6 + 1))), (0, .ref (g 0)), (2, .int (ii v2)), (3, .int (ii v3))] 3 ok d_Mo_spread_286 rfl (by rw [hN]; decide) rfl ?_
        refine jr_goto 231 ok d_Mo_spread_289 (by decide) ?_
        exact jr_lv [1, 2, 3, 0] rfl (ih231 v2 v3 (v6 + 1) (MS.w_m_nameLengths (MS.w_m_nameFroms S (aU S.m_nameFroms ((6 * v2) + v6) (S.m_nameFroms ((6 * v3) + v6)))) (aU S.m_nameLengths ((6 * v2) + v6) (S.m_nameLengths ((6 * v3) + v6)))) hs)
  have B_169 : ∀ (n169 : Nat), ∀ (v2 : Int) (v3 : Int) (v4 : Int) (v6 : Int) (S : MS), q_Mo_spread_169 n169 v2 v3 v4 v6 S = some (r, S9) → jw X 0 0 (moL D g S) [(0, .ref (g 0)), (2, .int (ii v2)), (3, .int (ii v3)), (4, .int (ii v4)), (6, .int (ii v6))] 169 [] := by
    intro n169
    induction n169 with
    | zero =>
      intro v2 v3 v4 v6 S hs
      rw [q_Mo_spread_169] at hs; cases hs
    | succ n169 ih169 =>
      intro v2 v3 v4 v6 S hs
      rw [q_Mo_spread_169] at hs
      refine jr_iload ok 4 d_Mo_spread_169 rfl ?_
      refine jr_iload ok 3 d_Mo_spread_171 rfl ?_
      refine jr_wicmp_ge 208 ok rfl rfl d_Mo_spread_173 (by decide) (fun c47 => ?_) (fun c47 => ?_)
      · replace hs := oq_pos c47 hs
        refine jr_aload_n ok 0 d_Mo_spread_208 rfl rfl ?_
        refine jr_get (v := .ref (g 13)) ok 0 f_Mo_50 rfl rfl d_Mo_spread_209 ?_
        refine jr_iload_n ok 1 d_Mo_spread_212 rfl rfl ?_
        refine jr_iload ok 3 d_Mo_spread_213 rfl ?_
        obtain ⟨hb48, hs⟩ := oq_if hs
        refine jr_iast (moL D g (MS.w_m_tableRows S (aU S.m_tableRows v2 v4))) ok 13 rfl rfl hb48.1 hb48.2  rfl d_Mo_spread_215 ?_
        refine jr_aload_n ok 0 d_Mo_spread_216 rfl rfl ?_
        refine jr_get (v := .ref (g 10)) ok 0 f_Mo_41 rfl rfl d_Mo_spread_217 ?_
        refine jr_iload_n ok 1 d_Mo_spread_220 rfl rfl ?_
        refine jr_aload_n ok 0 d_Mo_spread_221 rfl rfl ?_
        refine jr_get (v := .ref (g 10)) ok 0 f_Mo_41 rfl rfl d_Mo_spread_222 ?_
        refine jr_iload_n ok 2 d_Mo_spread_225 rfl rfl ?_
        obtain ⟨hb49, hs⟩ := oq_if hs
        refine jr_iald ok 10 rfl rfl hb49.1 hb49.2 d_Mo_spread_226 ?_
        show jw X 0 0 (moL D g (MS.w_m_tableRows S (aU S.m_tableRows v2 v4))) [(0, .ref (g 0)), (2, .int (ii v2)), (3, .int (ii v3)), (4, .int (ii v4)), (6, .int (ii v6))] 227 [.int (ii (S.m_tableNames v3)), .int (ii v2), .ref (g 10)]
        obtain ⟨hb50, hs⟩ := oq_if hs
        refine jr_iast (moL D g (MS.w_m_tableNames (MS.w_m_tableRows S (aU S.m_tableRows v2 v4)) (aU S.m_tableNames v2 (S.m_tableNames v3)))) ok 10 rfl rfl hb50.1 hb50.2  rfl d_Mo_spread_227 ?_
        refine jr_iconst ok d_Mo_spread_228 ?_
        refine jr_istore [(6, .int (ii 0)), (0, .ref (g 0)), (2, .int (ii v2)), (3, .int (ii v3)), (4, .int (ii v4))] ok d_Mo_spread_229 (by rw [hN]; decide) rfl ?_
        exact jr_lv [1, 2, 3, 0] rfl (B_231 fU v2 v3 0 (MS.w_m_tableNames (MS.w_m_tableRows S (aU S.m_tableRows v2 v4)) (aU S.m_tableNames v2 (S.m_tableNames v3))) hs)
      · replace hs := oq_neg c47 hs
        refine jr_aload_n ok 0 d_Mo_spread_176 rfl rfl ?_
        refine jr_get (v := .ref (g 14)) ok 0 f_Mo_53 rfl rfl d_Mo_spread_177 ?_
        refine jr_sipush ok d_Mo_spread_180 (by decide +kernel) ?_
        refine jr_iload_n ok 1 d_Mo_spread_183 rfl rfl ?_
        refine jr_imul ok d_Mo_spread_184 ?_
        refine jr_iload ok 4 d_Mo_spread_185 rfl ?_
        refine jr_iadd ok d_Mo_spread_187 ?_
        refine jr_aload_n ok 0 d_Mo_spread_188 rfl rfl ?_
        refine jr_get (v := .ref (g 14)) ok 0 f_Mo_53 rfl rfl d_Mo_spread_189 ?_
        refine jr_sipush ok d_Mo_spread_192 (by decide +kernel) ?_
        refine jr_iload_n ok 2 d_Mo_spread_195 rfl rfl ?_
        refine jr_imul ok d_Mo_spread_196 ?_
        refine jr_iload ok 4 d_Mo_spread_197 rfl ?_
        refine jr_iadd ok d_Mo_spread_199 ?_
        obtain ⟨hb51, hs⟩ := oq_if hs
        refine jr_iald ok 14 rfl rfl hb51.1 hb51.2 d_Mo_spread_200 ?_
        obtain ⟨hb52, hs⟩ := oq_if hs
        refine jr_iast (moL D g (MS.w_m_rowSeries S (aU S.m_rowSeries ((256 * v2) + v6) (S.m_rowSeries ((256 * v3) + v6))))) ok 14 rfl rfl hb52.1 hb52.2  rfl d_Mo_spread_201 ?_
        refine jr_iinc [(6, .int (ii (v6 + 1))), (0, .ref (g 0)), (2, .int (ii v2)), (3, .int (ii v3)), (4, .int (ii v4))] 4 ok d_Mo_spread_202 rfl (by rw [hN]; decide) rfl ?_
        refine jr_goto 169 ok d_Mo_spread_205 (by decide) ?_
        exact jr_lv [1, 2, 3, 4, 0] rfl (ih169 v2 v3 v4 (v6 + 1) (MS.w_m_rowSeries S (aU S.m_rowSeries ((256 * v2) + v6) (S.m_rowSeries ((256 * v3) + v6)))) hs)
  have B_107 : ∀ (n107 : Nat), ∀ (v1 : Int) (v2 : Int) (v3 : Int) (v4 : Int) (v5 : Int) (v6 : Int) (S : MS), q_Mo_spread_107 n107 v1 v2 v3 v4 v5 v6 S = some (r, S9) → jw X 0 0 (moL D g S) [(0, .ref (g 0)), (1, .int (ii v1)), (2, .int (ii v2)), (3, .int (ii v3)), (4, .int (ii v4)), (5, .int (ii v5)), (6, .int (ii v6))] 107 [] := by
    intro n107
    induction n107 with
    | zero =>
      intro v1 v2 v3 v4 v5 v6 S hs
      rw [q_Mo_spread_107] at hs; cases hs
    | succ n107 ih107 =>
      have B_117 : ∀ (n117 : Nat), ∀ (v1 : Int) (v2 : Int) (v3 : Int) (v4 : Int) (v5 : Int) (v6 : Int) (v7 : Int) (S : MS), q_Mo_spread_117 (q_Mo_spread_107 n107) n117 v1 v2 v3 v4 v5 v6 v7 S = some (r, S9) → jw X 0 0 (moL D g S) [(0, .ref (g 0)), (1, .int (ii v1)), (2, .int (ii v2)), (3, .int (ii v3)), (4, .int (ii v4)), (5, .int (ii v5)), (6, .int (ii v6)), (7, .int (ii v7))] 117 [] := by
        intro n117
        induction n117 with
        | zero =>
          intro v1 v2 v3 v4 v5 v6 v7 S hs
          rw [q_Mo_spread_117] at hs; cases hs
        | succ n117 ih117 =>
          intro v1 v2 v3 v4 v5 v6 v7 S hs
          rw [q_Mo_spread_117] at hs
          refine jr_iload ok 7 d_Mo_spread_117 rfl ?_
          refine jr_aload_n ok 0 d_Mo_spread_119 rfl rfl ?_
          refine jr_get (v := .int (ii S.m_windows)) ok 0 f_Mo_234 rfl rfl d_Mo_spread_120 ?_
          refine jr_wicmp_ge 160 ok rfl rfl d_Mo_spread_123 (by decide) (fun c43 => ?_) (fun c43 => ?_)
          · replace hs := oq_pos c43 hs
            refine jr_iinc [(6, .int (ii (v6 + 1))), (0, .ref (g 0)), (1, .int (ii v1)), (2, .int (ii v2)), (3, .int (ii v3)), (4, .int (ii v4)), (5, .int (ii v5)), (7, .int (ii v7))] 6 ok d_Mo_spread_160 rfl (by rw [hN]; decide) rfl ?_
            refine jr_goto 107 ok d_Mo_spread_163 (by decide) ?_
            exact jr_lv [1, 2, 3, 4, 5, 6, 0] rfl (ih107 v1 v2 v3 v4 v5 (v6 + 1) S hs)
          · replace hs := oq_neg c43 hs
            refine jr_aload_n ok 0 d_Mo_spread_126 rfl rfl ?_
            refine jr_iload_n ok 1 d_Mo_spread_127 rfl rfl ?_
            refine jr_aload_n ok 0 d_Mo_spread_128 rfl rfl ?_
            refine jr_iload_n ok 2 d_Mo_spread_129 rfl rfl ?_
            refine jr_iload ok 6 d_Mo_spread_130 rfl ?_
            refine jr_iload ok 7 d_Mo_spread_132 rfl ?_
            obtain ⟨r44, S44, hc44, hs⟩ := mb2_some hs
            refine jr_mV1 ok hR m_Mo_250 (c_Mo_cellAt (jx_l X) D g S v2 v6 v7 r44 S44 hc44) rfl rfl rfl rfl (Nat.le_of_ble_eq_true rfl) ⟨Nat.le_of_ble_eq_true rfl, Nat.le_of_ble_eq_true rfl⟩ ⟨Nat.zero_le _, Nat.zero_le _⟩ d_Mo_spread_134 ?_
            refine jr_iload ok 5 d_Mo_spread_137 rfl ?_
            refine jr_iload ok 7 d_Mo_spread_139 rfl ?_
            refine jr_iadd ok d_Mo_spread_141 ?_
            refine jr_aload_n ok 0 d_Mo_spread_142 rfl rfl ?_
            refine jr_iload_n ok 3 d_Mo_spread_143 rfl rfl ?_
            refine jr_iload ok 6 d_Mo_spread_144 rfl ?_
            refine jr_iload ok 7 d_Mo_spread_146 rfl ?_
            obtain ⟨r45, S45, hc45, hs⟩ := mb2_some hs
            refine jr_mV1 ok hR m_Mo_250 (c_Mo_cellAt (jx_l X) D g S44 v3 v6 v7 r45 S45 hc45) rfl rfl rfl rfl (Nat.le_of_ble_eq_true rfl) ⟨Nat.le_of_ble_eq_true rfl, Nat.le_of_ble_eq_true rfl⟩ ⟨Nat.zero_le _, Nat.zero_le _⟩ d_Mo_spread_148 ?_
            obtain ⟨r46, S46, hc46, hs⟩ := mb2_some hs
            refine jr_mV0 ok hR m_Mo_284 (c_Mo_join (jx_l X) D g S45 v1 r44 (v5 + v7) r45 r46 S46 hc46) rfl rfl rfl rfl (Nat.le_of_ble_eq_true rfl) ⟨Nat.le_of_ble_eq_true rfl, Nat.le_of_ble_eq_true rfl⟩ ⟨Nat.zero_le _, Nat.zero_le _⟩ d_Mo_spread_151 ?_
            refine jr_iinc [(7, .int (ii (v7 + 1))), (0, .ref (g 0)), (1, .int (ii v1)), (2, .int (ii v2)), (3, .int (ii v3)), (4, .int (ii v4)), (5, .int (ii v5)), (6, .int (ii v6))] 7 ok d_Mo_spread_154 rfl (by rw [hN]; decide) rfl ?_
            refine jr_goto 117 ok d_Mo_spread_157 (by decide) ?_
            exact jr_lv [1, 2, 3, 4, 5, 6, 7, 0] rfl (ih117 v1 v2 v3 v4 v5 v6 (v7 + 1) S46 hs)
      intro v1 v2 v3 v4 v5 v6 S hs
      rw [q_Mo_spread_107] at hs
      refine jr_iload ok 6 d_Mo_spread_107 rfl ?_
      refine jr_iload ok 4 d_Mo_spread_109 rfl ?_
      refine jr_wicmp_ge 166 ok rfl rfl d_Mo_spread_111 (by decide) (fun c42 => ?_) (fun c42 => ?_)
      · replace hs := oq_pos c42 hs
        refine jr_iconst ok d_Mo_spread_166 ?_
        refine jr_istore [(6, .int (ii 0)), (0, .ref (g 0)), (1, .int (ii v1)), (2, .int (ii v2)), (3, .int (ii v3)), (4, .int (ii v4)), (5, .int (ii v5))] ok d_Mo_spread_167 (by rw [hN]; decide) rfl ?_
        exact jr_lv [1, 3, 4, 5, 0] rfl (B_169 fU v2 v3 v4 0 S hs)
      · replace hs := oq_neg c42 hs
        refine jr_iconst ok d_Mo_spread_114 ?_
        refine jr_istore [(7, .int (ii 0)), (0, .ref (g 0)), (1, .int (ii v1)), (2, .int (ii v2)), (3, .int (ii v3)), (4, .int (ii v4)), (5, .int (ii v5)), (6, .int (ii v6))] ok d_Mo_spread_115 (by rw [hN]; decide) rfl ?_
        exact jr_lv [1, 2, 3, 4, 5, 6, 7, 0] rfl (B_117 fU v1 v2 v3 v4 v5 v6 0 S hs)
  have B_104 : ∀ (v1 : Int) (v2 : Int) (v3 : Int) (v4 : Int) (v5 : Int) (S : MS), q_Mo_spread_104 v1 v2 v3 v4 v5 S = some (r, S9) → jw X 0 0 (moL D g S) [(0, .ref (g 0)), (1, .int (ii v1)), (2, .int (ii v2)), (3, .int (ii v3)), (4, .int (ii v4)), (5, .int (ii v5))] 104 [] := by
    intro v1 v2 v3 v4 v5 S hs
    rw [q_Mo_spread_104] at hs
    refine jr_iconst ok d_Mo_spread_104 ?_
    refine jr_istore [(6, .int (ii 0)), (0, .ref (g 0)), (1, .int (ii v1)), (2, .int (ii v2)), (3, .int (ii v3)), (4, .int (ii v4)), (5, .int (ii v5))] ok d_Mo_spread_105 (by rw [hN]; decide) rfl ?_
    exact jr_lv [1, 2, 3, 4, 5, 6, 0] rfl (B_107 fU v1 v2 v3 v4 v5 0 S hs)
  have B_38 : ∀ (n38 : Nat), ∀ (v1 : Int) (v2 : Int) (v3 : Int) (v4 : Int) (v5 : Int) (v6 : Int) (S : MS), q_Mo_spread_38 n38 v1 v2 v3 v4 v5 v6 S = some (r, S9) → jw X 0 0 (moL D g S) [(0, .ref (g 0)), (1, .int (ii v1)), (2, .int (ii v2)), (3, .int (ii v3)), (4, .int (ii v4)), (5, .int (ii v5)), (6, .int (ii v6))] 38 [] := by
    intro n38
    induction n38 with
    | zero =>
      intro v1 v2 v3 v4 v5 v6 S hs
      rw [q_Mo_spread_38] at hs; cases hs
    | succ n38 ih38 =>
      intro v1 v2 v3 v4 v5 v6 S hs
      rw [q_Mo_spread_38] at hs
      refine jr_iload ok 6 d_Mo_spread_38 rfl ?_
      refine jr_aload_n ok 0 d_Mo_spread_40 rfl rfl ?_
      refine jr_get (v := .int (ii S.m_windows)) ok 0 f_Mo_234 rfl rfl d_Mo_spread_41 ?_
      refine jr_wicmp_ge 104 ok rfl rfl d_Mo_spread_44 (by decide) (fun c33 => ?_) (fun c33 => ?_)
      · replace hs := oq_pos c33 hs
        exact jr_lv [0, 1, 2, 3, 4, 5] rfl (B_104 v1 v2 v3 v4 v5 S hs)
      · replace hs := oq_neg c33 hs
        refine jr_iload ok 4 d_Mo_spread_47 rfl ?_
        refine jr_wif_le 104 ok rfl d_Mo_spread_49 (by decide) (fun c34 => ?_) (fun c34 => ?_)
        · replace hs := oq_pos c34 hs
          exact jr_lv [0, 1, 2, 3, 4, 5] rfl (B_104 v1 v2 v3 v4 v5 S hs)
        · replace hs := oq_neg c34 hs
          refine jr_aload_n ok 0 d_Mo_spread_52 rfl rfl ?_
          refine jr_get (v := .ref (g 15)) ok 0 f_Mo_57 rfl rfl d_Mo_spread_53 ?_
          refine jr_iload ok 5 d_Mo_spread_56 rfl ?_
          refine jr_iload ok 6 d_Mo_spread_58 rfl ?_
          refine jr_iadd ok d_Mo_spread_60 ?_
          refine jr_aload_n ok 0 d_Mo_spread_61 rfl rfl ?_
          refine jr_get (v := .ref (g 15)) ok 0 f_Mo_57 rfl rfl d_Mo_spread_62 ?_
          refine jr_aload_n ok 0 d_Mo_spread_65 rfl rfl ?_
          refine jr_iload_n ok 2 d_Mo_spread_66 rfl rfl ?_
          refine jr_iconst ok d_Mo_spread_67 ?_
          refine jr_iload ok 6 d_Mo_spread_68 rfl ?_
          obtain ⟨r35, S35, hc35, hs⟩ := mb2_some hs
          refine jr_mV1 ok hR m_Mo_250 (c_Mo_cellAt (jx_l X) D g S v2 0 v6 r35 S35 hc35) rfl rfl rfl rfl (Nat.le_of_ble_eq_true rfl) ⟨Nat.le_of_ble_eq_true rfl, Nat.le_of_ble_eq_true rfl⟩ ⟨Nat.zero_le _, Nat.zero_le _⟩ d_Mo_spread_70 ?_
          obtain ⟨hb36, hs⟩ := oq_if hs
          refine jr_lald ok 15 rfl rfl hb36.1 hb36.2 d_Mo_spread_73 ?_
          obtain ⟨hb37, hs⟩ := oq_if hs
          refine jr_last (moL D g (MS.w_m_cells S35 (aU S35.m_cells (v5 + v6) (S35.m_cells r35)))) ok 15 rfl rfl hb37.1 hb37.2  rfl d_Mo_spread_74 ?_
          refine jr_aload_n ok 0 d_Mo_spread_75 rfl rfl ?_
          refine jr_get (v := .ref (g 16)) ok 0 f_Mo_60 rfl rfl d_Mo_spread_76 ?_
          refine jr_iload ok 5 d_Mo_spread_79 rfl ?_
          refine jr_iload ok 6 d_Mo_spread_81 rfl ?_
          refine jr_iadd ok d_Mo_spread_83 ?_
          refine jr_aload_n ok 0 d_Mo_spread_84 rfl rfl ?_
          refine jr_get (v := .ref (g 16)) ok 0 f_Mo_60 rfl rfl d_Mo_spread_85 ?_
          refine jr_aload_n ok 0 d_Mo_spread_88 rfl rfl ?_
          refine jr_iload_n ok 2 d_Mo_spread_89 rfl rfl ?_
          refine jr_iconst ok d_Mo_spread_90 ?_
          refine jr_iload ok 6 d_Mo_spread_91 rfl ?_
          obtain ⟨r38, S38, hc38, hs⟩ := mb2_some hs
          refine jr_mV1 ok hR m_Mo_250 (c_Mo_cellAt (jx_l X) D g (MS.w_m_cells S35 (aU S35.m_cells (v5 + v6) (S35.m_cells r35))) v2 0 v6 r38 S38 hc38) rfl rfl rfl rfl (Nat.le_of_ble_eq_true rfl) ⟨Nat.le_of_ble_eq_true rfl, Nat.le_of_ble_eq_true rfl⟩ ⟨Nat.zero_le _, Nat.zero_le _⟩ d_Mo_spread_93 ?_
          obtain ⟨hb39, hs⟩ := oq_if hs
          refine jr_zald ok 16 rfl rfl hb39.1 hb39.2 d_Mo_spread_96 ?_
          obtain ⟨hb40, hs⟩ := oq_if hs
          obtain ⟨hb41, hs⟩ := oq_if hs
          refine jr_zast (moL D g (MS.w_m_isCell S38 (aU S38.m_isCell (v5 + v6) (S38.m_isCell r38)))) ok 16 rfl rfl hb40.1 hb40.2 (nz_b hb41) rfl d_Mo_spread_97 ?_
          refine jr_iinc [(6, .int (ii (v6 + 1))), (0, .ref (g 0)), (1, .int (ii v1)), (2, .int (ii v2)), (3, .int (ii v3)), (4, .int (ii v4)), (5, .int (ii v5))] 6 ok d_Mo_spread_98 rfl (by rw [hN]; decide) rfl ?_
          refine jr_goto 38 ok d_Mo_spread_101 (by decide) ?_
          exact jr_lv [1, 2, 3, 4, 5, 6, 0] rfl (ih38 v1 v2 v3 v4 v5 (v6 + 1) (MS.w_m_isCell S38 (aU S38.m_isCell (v5 + v6) (S38.m_isCell r38))) hs)
  have B_19 : ∀ (v1 : Int) (v2 : Int) (v3 : Int) (t0 : Int) (S : MS), q_Mo_spread_19 v1 v2 v3 t0 S = some (r, S9) → jw X 0 0 (moL D g S) [(0, .ref (g 0)), (1, .int (ii v1)), (2, .int (ii v2)), (3, .int (ii v3))] 19 [.int (ii t0)] := by
    intro v1 v2 v3 t0 S hs
    rw [q_Mo_spread_19] at hs
    refine jr_istore [(4, .int (ii t0)), (0, .ref (g 0)), (1, .int (ii v1)), (2, .int (ii v2)), (3, .int (ii v3))] ok d_Mo_spread_19 (by rw [hN]; decide) rfl ?_
    refine jr_aload_n ok 1 d_Mo_spread_21 rfl rfl ?_
    refine jr_iload_n ok 4 d_Mo_spread_22 rfl rfl ?_
    refine jr_aload_n ok 1 d_Mo_spread_23 rfl rfl ?_
    refine jr_get (v := .ref (g 13)) ok 0 f_Mo_50 rfl rfl d_Mo_spread_24 ?_
    refine jr_iload_n ok 4 d_Mo_spread_27 rfl rfl ?_
    obtain ⟨hb31, hs⟩ := oq_if hs
    refine jr_iald ok 13 rfl rfl hb31.1 hb31.2 d_Mo_spread_28 ?_
    refine jr_iconst ok d_Mo_spread_29 ?_
    obtain ⟨r32, S32, hc32, hs⟩ := mb2_some hs
    refine jr_mV1 ok hR m_Mo_250 (c_Mo_cellAt (jx_l X) D g S v3 (S.m_tableRows v3) 0 r32 S32 hc32) rfl rfl rfl rfl (Nat.le_of_ble_eq_true rfl) ⟨Nat.le_of_ble_eq_true rfl, Nat.le_of_ble_eq_true rfl⟩ ⟨Nat.zero_le _, Nat.zero_le _⟩ d_Mo_spread_30 ?_
    refine jr_istore [(5, .int (ii r32)), (4, .int (ii t0)), (0, .ref (g 0)), (1, .int (ii v1)), (2, .int (ii v2)), (3, .int (ii v3))] ok d_Mo_spread_33 (by rw [hN]; decide) rfl ?_
    refine jr_iconst ok d_Mo_spread_35 ?_
    refine jr_istore [(6, .int (ii 0)), (5, .int (ii r32)), (4, .int (ii t0)), (0, .ref (g 0)), (1, .int (ii v1)), (2, .int (ii v2)), (3, .int (ii v3))] ok d_Mo_spread_36 (by rw [hN]; decide) rfl ?_
    exact jr_lv [3, 4, 5, 6, 2, 1, 0] rfl (B_38 fU v1 v2 v3 t0 r32 0 S32 hs)
  show jw X 0 0 (moL D g S) [(0, .ref (g 0)), (1, .int (ii v1)), (2, .int (ii v2)), (3, .int (ii v3))] 0 []
  rw [s_Mo_spread] at hs
  refine jr_aload_n ok 0 d_Mo_spread_0 rfl rfl ?_
  refine jr_get (v := .ref (g 13)) ok 0 f_Mo_50 rfl rfl d_Mo_spread_1 ?_
  refine jr_iload_n ok 2 d_Mo_spread_4 rfl rfl ?_
  obtain ⟨hb58, hs⟩ := oq_if hs
  refine jr_iald ok 13 rfl rfl hb58.1 hb58.2 d_Mo_spread_5 ?_
  refine jr_wif_le 18 ok rfl d_Mo_spread_6 (by decide) (fun c59 => ?_) (fun c59 => ?_)
  · replace hs := oq_pos c59 hs
    refine jr_iconst ok d_Mo_spread_18 ?_
    exact jr_lv [0, 1, 2, 3] rfl (B_19 v1 v2 v3 0 S hs)
  · replace hs := oq_neg c59 hs
    refine jr_aload_n ok 0 d_Mo_spread_9 rfl rfl ?_
    refine jr_get (v := .ref (g 13)) ok 0 f_Mo_50 rfl rfl d_Mo_spread_10 ?_
    refine jr_iload_n ok 3 d_Mo_spread_13 rfl rfl ?_
    obtain ⟨hb60, hs⟩ := oq_if hs
    refine jr_iald ok 13 rfl rfl hb60.1 hb60.2 d_Mo_spread_14 ?_
    refine jr_goto 19 ok d_Mo_spread_15 (by decide) ?_
    exact jr_lv [0, 1, 2, 3] rfl (B_19 v1 v2 v3 (S.m_tableRows v3) S hs)

def q_Mo_isThere_26 (v1 : Int) (v2 : Int) (t0 : Int) (S : MS) : Option (Int × MS) := if w32 t0 = 0 then if (0 : Int) ≤ ((64 * v1) + v2) ∧ ((64 * v1) + v2) < (16384 : Int) then if w32 (S.m_isShown ((64 * v1) + v2)) = 0 then some (0, MS.w_m_code S t0) else some (1, MS.w_m_code S t0) else none else some (0, MS.w_m_code S t0)

def q_Mo_isThere_25 (v1 : Int) (v2 : Int) (S : MS) : Option (Int × MS) := q_Mo_isThere_26 v1 v2 1 S

def s_Mo_isThere (S : MS) (v1 : Int) (v2 : Int) : Option (Int × MS) := mb2 (s_Mo_isRow S v1) (fun r11 S11 => if w32 r11 = 0 then q_Mo_isThere_25 v1 v2 S11 else if w32 v2 < 0 then q_Mo_isThere_25 v1 v2 S11 else if w32 S11.m_shownWindows ≤ w32 v2 then q_Mo_isThere_25 v1 v2 S11 else q_Mo_isThere_26 v1 v2 0 S11)
set_option maxHeartbeats 4000000 in
set_option maxRecDepth 100000 in
theorem c_Mo_isThere (l : Launch) (D : jd_T) (g : Nat → Nat) (S : MS) (v1 : Int) (v2 : Int) (r : Int) (S9 : MS) (hs : s_Mo_isThere S v1 v2 = some (r, S9)) : jc_C l D y_Mo_isThere b_Mo_isThere 3 (some .boolean) { frames := 1, cells := 0, slots := 0, locals := 21 } [.ref (g 0), .int (ii v1), .int (ii v2)] (moL D g S) (fun _ : Unit => (.returned (some (.int (ii r))), True, (moL D g S9))) := by
  refine jc_of rfl (Nat.le_of_ble_eq_true rfl) ?_
  intro X hl hR hN ok hnm fin
  subst hl
  have B_26 : ∀ (v1 : Int) (v2 : Int) (t0 : Int) (S : MS), q_Mo_isThere_26 v1 v2 t0 S = some (r, S9) → jw X 0 0 (moL D g S) [(0, .ref (g 0)), (1, .int (ii v1)), (2, .int (ii v2))] 26 [.int (ii t0), .ref (g 0)] := by
    intro v1 v2 t0 S hs
    rw [q_Mo_isThere_26] at hs
    refine jr_put (moL D g (MS.w_m_code S t0)) ok 0 f_Mo_101 rfl rfl rfl (Nat.le_of_ble_eq_true rfl) rfl d_Mo_isThere_26 ?_
    refine jr_aload_n ok 0 d_Mo_isThere_29 rfl rfl ?_
    refine jr_get (v := .int (ii t0)) ok 0 f_Mo_101 rfl rfl d_Mo_isThere_30 ?_
    refine jr_wif_ne 54 ok rfl d_Mo_isThere_33 (by decide) (fun c8 => ?_) (fun c8 => ?_)
    · replace hs := oq_neg c8 hs
      refine jr_iconst ok d_Mo_isThere_54 ?_
      exact jm_zret (Lf := moL D g) ok (by decide +kernel) fin hs d_Mo_isThere_55
    · replace hs := oq_pos c8 hs
      refine jr_aload_n ok 0 d_Mo_isThere_36 rfl rfl ?_
      refine jr_get (v := .ref (g 28)) ok 0 f_Mo_98 rfl rfl d_Mo_isThere_37 ?_
      refine jr_bipush ok d_Mo_isThere_40 (by decide +kernel) ?_
      refine jr_iload_n ok 1 d_Mo_isThere_42 rfl rfl ?_
      refine jr_imul ok d_Mo_isThere_43 ?_
      refine jr_iload_n ok 2 d_Mo_isThere_44 rfl rfl ?_
      refine jr_iadd ok d_Mo_isThere_45 ?_
      obtain ⟨hb9, hs⟩ := oq_if hs
      refine jr_zald ok 28 rfl rfl hb9.1 hb9.2 d_Mo_isThere_46 ?_
      show jw X 0 0 (moL D g (MS.w_m_code S t0)) [(0, .ref (g 0)), (1, .int (ii v1)), (2, .int (ii v2))] 47 [.int (ii (S.m_isShown ((64 * v1) + v2)))]
      refine jr_wif_eq 54 ok rfl d_Mo_isThere_47 (by decide) (fun c10 => ?_) (fun c10 => ?_)
      · replace hs := oq_pos c10 hs
        refine jr_iconst ok d_Mo_isThere_54 ?_
        exact jm_zret (Lf := moL D g) ok (by decide +kernel) fin hs d_Mo_isThere_55
      · replace hs := oq_neg c10 hs
        refine jr_iconst ok d_Mo_isThere_50 ?_
        refine jr_goto 55 ok d_Mo_isThere_51 (by decide) ?_
        exact jm_zret (Lf := moL D g) ok (by decide +kernel) fin hs d_Mo_isThere_55
  have B_25 : ∀ (v1 : Int) (v2 : Int) (S : MS), q_Mo_isThere_25 v1 v2 S = some (r, S9) → jw X 0 0 (moL D g S) [(0, .ref (g 0)), (1, .int (ii v1)), (2, .int (ii v2))] 25 [.ref (g 0)] := by
    intro v1 v2 S hs
    rw [q_Mo_isThere_25] at hs
    refine jr_iconst ok d_Mo_isThere_25 ?_
    exact jr_lv [0, 1, 2] rfl (B_26 v1 v2 1 S hs)
  show jw X 0 0 (moL D g S) [(0, .ref (g 0)), (1, .int (ii v1)), (2, .int (ii v2))] 0 []
  rw [s_Mo_isThere] at hs
  refine jr_aload_n ok 0 d_Mo_isThere_0 rfl rfl ?_
  refine jr_aload_n ok 0 d_Mo_isThere_1 rfl rfl ?_
  refine jr_iload_n ok 1 d_Mo_isThere_2 rfl rfl ?_
  obtain ⟨r11, S11, hc11, hs⟩ := mb2_some hs
  refine jr_mV1 ok hR m_Mo_371 (c_Mo_isRow (jx_l X) D g S v1 r11 S11 hc11) rfl rfl rfl rfl (Nat.le_of_ble_eq_true rfl) ⟨Nat.le_of_ble_eq_true rfl, Nat.le_of_ble_eq_true rfl⟩ ⟨Nat.zero_le _, Nat.zero_le _⟩ d_Mo_isThere_3 ?_
  refine jr_wif_eq 25 ok rfl d_Mo_isThere_6 (by decide) (fun c12 => ?_) (fun c12 => ?_)
  · replace hs := oq_pos c12 hs
    exact jr_lv [0, 1, 2] rfl (B_25 v1 v2 S11 hs)
  · replace hs := oq_neg c12 hs
    refine jr_iload_n ok 2 d_Mo_isThere_9 rfl rfl ?_
    refine jr_wif_lt 25 ok rfl d_Mo_isThere_10 (by decide) (fun c13 => ?_) (fun c13 => ?_)
    · replace hs := oq_pos c13 hs
      exact jr_lv [0, 1, 2] rfl (B_25 v1 v2 S11 hs)
    · replace hs := oq_neg c13 hs
      refine jr_iload_n ok 2 d_Mo_isThere_13 rfl rfl ?_
      refine jr_aload_n ok 0 d_Mo_isThere_14 rfl rfl ?_
      refine jr_get (v := .int (ii S11.m_shownWindows)) ok 0 f_Mo_361 rfl rfl d_Mo_isThere_15 ?_
      refine jr_wicmp_ge 25 ok rfl rfl d_Mo_isThere_18 (by decide) (fun c14 => ?_) (fun c14 => ?_)
      · replace hs := oq_pos c14 hs
        exact jr_lv [0, 1, 2] rfl (B_25 v1 v2 S11 hs)
      · replace hs := oq_neg c14 hs
        refine jr_iconst ok d_Mo_isThere_21 ?_
        refine jr_goto 26 ok d_Mo_isThere_22 (by decide) ?_
        exact jr_lv [0, 1, 2] rfl (B_26 v1 v2 0 S11 hs)

def q_Mo_layText_192 (k13 : Int → Int → Int → MS → Option (Int × MS)) : Nat → Int → Int → Int → Int → Int → MS → Option (Int × MS)
  | 0, _, _, _, _, _, _ => none
  | n + 1, v1, v2, v3, v6, v7, S => if w32 v6 ≤ w32 v7 then k13 v1 v2 (v3 + 1) S else if (0 : Int) ≤ v7 ∧ v7 < (65536 : Int) then if (0 : Int) ≤ (v1 + v2) ∧ (v1 + v2) < (78128 : Int) then if -128 ≤ (S.m_tape v7) ∧ (S.m_tape v7) ≤ 127 then (q_Mo_layText_192 k13 n) v1 (v2 + 1) v3 v6 (v7 + 1) (MS.w_m_texts S (aU S.m_texts (v1 + v2) (S.m_tape v7))) else none else none else none

def q_Mo_layText_152 (k13 : Int → Int → Int → MS → Option (Int × MS)) (v1 : Int) (v2 : Int) (v3 : Int) (v4 : Int) (S : MS) : Option (Int × MS) := if (0 : Int) ≤ (4 * v4) ∧ (4 * v4) < (28 : Int) then if (0 : Int) ≤ ((4 * v4) + 2) ∧ ((4 * v4) + 2) < (28 : Int) then if (0 : Int) ≤ ((4 * v4) + 3) ∧ ((4 * v4) + 3) < (28 : Int) then q_Mo_layText_192 k13 fU v1 v2 v3 ((S.m_labels ((4 * v4) + 2)) + (S.m_labels ((4 * v4) + 3))) (S.m_labels (4 * v4)) S else none else none else none

def q_Mo_layText_127 (k13 : Int → Int → Int → MS → Option (Int × MS)) (k27 : Int → Int → Int → Int → Int → MS → Option (Int × MS)) (v1 : Int) (v2 : Int) (v3 : Int) (v5 : Int) (t0 : Int) (S : MS) : Option (Int × MS) := k27 v1 v2 v3 t0 (v5 + 1) S

def q_Mo_layText_105 (k13 : Int → Int → Int → MS → Option (Int × MS)) (k27 : Int → Int → Int → Int → Int → MS → Option (Int × MS)) (k42 : Int → Int → Int → Int → Int → Int → Int → MS → Option (Int × MS)) (v1 : Int) (v2 : Int) (v3 : Int) (v4 : Int) (v5 : Int) (v7 : Int) (t0 : Int) (t1 : Int) (S : MS) : Option (Int × MS) := k42 v1 v2 v3 v4 v5 (t1 + t0) (v7 + 1) S

def q_Mo_layText_42 (k13 : Int → Int → Int → MS → Option (Int × MS)) (k27 : Int → Int → Int → Int → Int → MS → Option (Int × MS)) : Nat → Int → Int → Int → Int → Int → Int → Int → MS → Option (Int × MS)
  | 0, _, _, _, _, _, _, _, _ => none
  | n + 1, v1, v2, v3, v4, v5, v6, v7, S => if w32 S.m_labelCount ≤ w32 v7 then if w32 v6 = w32 v3 then q_Mo_layText_127 k13 k27 v1 v2 v3 v5 v5 S else q_Mo_layText_127 k13 k27 v1 v2 v3 v5 v4 S else if (0 : Int) ≤ (4 * v7) ∧ (4 * v7) < (28 : Int) then if (0 : Int) ≤ ((4 * v7) + 1) ∧ ((4 * v7) + 1) < (28 : Int) then if (0 : Int) ≤ (4 * v5) ∧ (4 * v5) < (28 : Int) then if (0 : Int) ≤ ((4 * v5) + 1) ∧ ((4 * v5) + 1) < (28 : Int) then mb2 (s_Mo_compare S (S.m_labels (4 * v7)) (S.m_labels ((4 * v7) + 1)) (S.m_labels (4 * v5)) (S.m_labels ((4 * v5) + 1))) (fun r30 S30 => if 0 ≤ w32 r30 then q_Mo_layText_105 k13 k27 (q_Mo_layText_42 k13 k27 n) v1 v2 v3 v4 v5 v7 0 v6 S30 else q_Mo_layText_105 k13 k27 (q_Mo_layText_42 k13 k27 n) v1 v2 v3 v4 v5 v7 1 v6 S30) else none else none else none else none

def q_Mo_layText_27 (k13 : Int → Int → Int → MS → Option (Int × MS)) : Nat → Int → Int → Int → Int → Int → MS → Option (Int × MS)
  | 0, _, _, _, _, _, _ => none
  | n + 1, v1, v2, v3, v4, v5, S => if w32 S.m_labelCount ≤ w32 v5 then if w32 v3 ≤ 0 then q_Mo_layText_152 k13 v1 v2 v3 v4 S else if (0 : Int) ≤ (v1 + v2) ∧ (v1 + v2) < (78128 : Int) then q_Mo_layText_152 k13 v1 (v2 + 1) v3 v4 (MS.w_m_texts S (aU S.m_texts (v1 + v2) 44)) else none else q_Mo_layText_42 k13 (q_Mo_layText_27 k13 n) fU v1 v2 v3 v4 v5 0 0 S

def q_Mo_layText_13 : Nat → Int → Int → Int → MS → Option (Int × MS)
  | 0, _, _, _, _ => none
  | n + 1, v1, v2, v3, S => if w32 S.m_labelCount ≤ w32 v3 then some (v2, S) else q_Mo_layText_27 (q_Mo_layText_13 n) fU v1 v2 v3 0 0 S

def s_Mo_layText (S : MS)  : Option (Int × MS) := q_Mo_layText_13 fU (304 * S.m_seriesCount) 0 0 S
set_option maxHeartbeats 4000000 in
set_option maxRecDepth 100000 in
theorem c_Mo_layText (l : Launch) (D : jd_T) (g : Nat → Nat) (S : MS)  (r : Int) (S9 : MS) (hs : s_Mo_layText S  = some (r, S9)) : jc_C l D y_Mo_layText b_Mo_layText 8 (some .int) { frames := 1, cells := 0, slots := 0, locals := 25 } [.ref (g 0)] (moL D g S) (fun _ : Unit => (.returned (some (.int (ii r))), True, (moL D g S9))) := by
  refine jc_of rfl (Nat.le_of_ble_eq_true rfl) ?_
  intro X hl hR hN ok hnm fin
  subst hl
  have B_13 : ∀ (n13 : Nat), ∀ (v1 : Int) (v2 : Int) (v3 : Int) (S : MS), q_Mo_layText_13 n13 v1 v2 v3 S = some (r, S9) → jw X 0 0 (moL D g S) [(0, .ref (g 0)), (1, .int (ii v1)), (2, .int (ii v2)), (3, .int (ii v3))] 13 [] := by
    intro n13
    induction n13 with
    | zero =>
      intro v1 v2 v3 S hs
      rw [q_Mo_layText_13] at hs; cases hs
    | succ n13 ih13 =>
      have B_192 : ∀ (n192 : Nat), ∀ (v1 : Int) (v2 : Int) (v3 : Int) (v6 : Int) (v7 : Int) (S : MS), q_Mo_layText_192 (q_Mo_layText_13 n13) n192 v1 v2 v3 v6 v7 S = some (r, S9) → jw X 0 0 (moL D g S) [(0, .ref (g 0)), (1, .int (ii v1)), (2, .int (ii v2)), (3, .int (ii v3)), (6, .int (ii v6)), (7, .int (ii v7))] 192 [] := by
        intro n192
        induction n192 with
        | zero =>
          intro v1 v2 v3 v6 v7 S hs
          rw [q_Mo_layText_192] at hs; cases hs
        | succ n192 ih192 =>
          intro v1 v2 v3 v6 v7 S hs
          rw [q_Mo_layText_192] at hs
          refine jr_iload ok 5 d_Mo_layText_192 rfl ?_
          refine jr_iload ok 4 d_Mo_layText_194 rfl ?_
          refine jr_wicmp_ge 223 ok rfl rfl d_Mo_layText_196 (by decide) (fun c35 => ?_) (fun c35 => ?_)
          · replace hs := oq_pos c35 hs
            refine jr_iinc [(3, .int (ii (v3 + 1))), (0, .ref (g 0)), (1, .int (ii v1)), (2, .int (ii v2)), (6, .int (ii v6)), (7, .int (ii v7))] 3 ok d_Mo_layText_223 rfl (by rw [hN]; decide) rfl ?_
            refine jr_goto 13 ok d_Mo_layText_226 (by decide) ?_
            exact jr_lv [1, 2, 3, 0] rfl (ih13 v1 v2 (v3 + 1) S hs)
          · replace hs := oq_neg c35 hs
            refine jr_aload_n ok 0 d_Mo_layText_199 rfl rfl ?_
            refine jr_get (v := .ref (g 2)) ok 0 f_Mo_15 rfl rfl d_Mo_layText_200 ?_
            refine jr_iload_n ok 1 d_Mo_layText_203 rfl rfl ?_
            refine jr_iload_n ok 2 d_Mo_layText_204 rfl rfl ?_
            refine jr_iadd ok d_Mo_layText_205 ?_
            refine jr_aload_n ok 0 d_Mo_layText_206 rfl rfl ?_
            refine jr_get (v := .ref (g 1)) ok 0 f_Mo_8 rfl rfl d_Mo_layText_207 ?_
            refine jr_iload ok 5 d_Mo_layText_210 rfl ?_
            obtain ⟨hb36, hs⟩ := oq_if hs
            refine jr_bald ok 1 rfl rfl hb36.1 hb36.2 d_Mo_layText_212 ?_
            obtain ⟨hb37, hs⟩ := oq_if hs
            obtain ⟨hb38, hs⟩ := oq_if hs
            refine jr_bast (moL D g (MS.w_m_texts S (aU S.m_texts (v1 + v2) (S.m_tape v7)))) ok 2 rfl rfl hb37.1 hb37.2 (nar_b hb38) rfl d_Mo_layText_213 ?_
            refine jr_iinc [(2, .int (ii (v2 + 1))), (0, .ref (g 0)), (1, .int (ii v1)), (3, .int (ii v3)), (6, .int (ii v6)), (7, .int (ii v7))] 2 ok d_Mo_layText_214 rfl (by rw [hN]; decide) rfl ?_
            refine jr_iinc [(7, .int (ii (v7 + 1))), (2, .int (ii (v2 + 1))), (0, .ref (g 0)), (1, .int (ii v1)), (3, .int (ii v3)), (6, .int (ii v6))] 5 ok d_Mo_layText_217 rfl (by rw [hN]; decide) rfl ?_
            refine jr_goto 192 ok d_Mo_layText_220 (by decide) ?_
            exact jr_lv [2, 3, 1, 4, 5, 0] rfl (ih192 v1 (v2 + 1) v3 v6 (v7 + 1) (MS.w_m_texts S (aU S.m_texts (v1 + v2) (S.m_tape v7))) hs)
      have B_152 : ∀ (v1 : Int) (v2 : Int) (v3 : Int) (v4 : Int) (S : MS), q_Mo_layText_152 (q_Mo_layText_13 n13) v1 v2 v3 v4 S = some (r, S9) → jw X 0 0 (moL D g S) [(0, .ref (g 0)), (1, .int (ii v1)), (2, .int (ii v2)), (3, .int (ii v3)), (4, .int (ii v4))] 152 [] := by
        intro v1 v2 v3 v4 S hs
        rw [q_Mo_layText_152] at hs
        refine jr_aload_n ok 0 d_Mo_layText_152 rfl rfl ?_
        refine jr_get (v := .ref (g 9)) ok 0 f_Mo_38 rfl rfl d_Mo_layText_153 ?_
        refine jr_iconst ok d_Mo_layText_156 ?_
        refine jr_iload ok 4 d_Mo_layText_157 rfl ?_
        refine jr_imul ok d_Mo_layText_159 ?_
        obtain ⟨hb32, hs⟩ := oq_if hs
        refine jr_iald ok 9 rfl rfl hb32.1 hb32.2 d_Mo_layText_160 ?_
        refine jr_istore [(5, .int (ii (S.m_labels (4 * v4)))), (0, .ref (g 0)), (1, .int (ii v1)), (2, .int (ii v2)), (3, .int (ii v3)), (4, .int (ii v4))] ok d_Mo_layText_161 (by rw [hN]; decide) rfl ?_
        refine jr_aload_n ok 1 d_Mo_layText_163 rfl rfl ?_
        refine jr_get (v := .ref (g 9)) ok 0 f_Mo_38 rfl rfl d_Mo_layText_164 ?_
        refine jr_iconst ok d_Mo_layText_167 ?_
        refine jr_iload ok 5 d_Mo_layText_168 rfl ?_
        refine jr_imul ok d_Mo_layText_170 ?_
        refine jr_iconst ok d_Mo_layText_171 ?_
        refine jr_iadd ok d_Mo_layText_172 ?_
        obtain ⟨hb33, hs⟩ := oq_if hs
        refine jr_iald ok 9 rfl rfl hb33.1 hb33.2 d_Mo_layText_173 ?_
        refine jr_aload_n ok 1 d_Mo_layText_174 rfl rfl ?_
        refine jr_get (v := .ref (g 9)) ok 0 f_Mo_38 rfl rfl d_Mo_layText_175 ?_
        refine jr_iconst ok d_Mo_layText_178 ?_
        refine jr_iload ok 5 d_Mo_layText_179 rfl ?_
        refine jr_imul ok d_Mo_layText_181 ?_
        refine jr_iconst ok d_Mo_layText_182 ?_
        refine jr_iadd ok d_Mo_layText_183 ?_
        obtain ⟨hb34, hs⟩ := oq_if hs
        refine jr_iald ok 9 rfl rfl hb34.1 hb34.2 d_Mo_layText_184 ?_
        refine jr_iadd ok d_Mo_layText_185 ?_
        refine jr_istore [(6, .int (ii ((S.m_labels ((4 * v4) + 2)) + (S.m_labels ((4 * v4) + 3))))), (5, .int (ii (S.m_labels (4 * v4)))), (0, .ref (g 0)), (1, .int (ii v1)), (2, .int (ii v2)), (3, .int (ii v3)), (4, .int (ii v4))] ok d_Mo_layText_186 (by rw [hN]; decide) rfl ?_
        refine jr_iload ok 1 d_Mo_layText_188 rfl ?_
        refine jr_istore [(7, .int (ii (S.m_labels (4 * v4)))), (6, .int (ii ((S.m_labels ((4 * v4) + 2)) + (S.m_labels ((4 * v4) + 3))))), (5, .int (ii (S.m_labels (4 * v4)))), (0, .ref (g 0)), (1, .int (ii v1)), (2, .int (ii v2)), (3, .int (ii v3)), (4, .int (ii v4))] ok d_Mo_layText_190 (by rw [hN]; decide) rfl ?_
        exact jr_lv [3, 4, 5, 6, 1, 0] rfl (B_192 fU v1 v2 v3 ((S.m_labels ((4 * v4) + 2)) + (S.m_labels ((4 * v4) + 3))) (S.m_labels (4 * v4)) S hs)
      have B_27 : ∀ (n27 : Nat), ∀ (v1 : Int) (v2 : Int) (v3 : Int) (v4 : Int) (v5 : Int) (S : MS), q_Mo_layText_27 (q_Mo_layText_13 n13) n27 v1 v2 v3 v4 v5 S = some (r, S9) → jw X 0 0 (moL D g S) [(0, .ref (g 0)), (1, .int (ii v1)), (2, .int (ii v2)), (3, .int (ii v3)), (4, .int (ii v4)), (5, .int (ii v5))] 27 [] := by
        intro n27
        induction n27 with
        | zero =>
          intro v1 v2 v3 v4 v5 S hs
          rw [q_Mo_layText_27] at hs; cases hs
        | succ n27 ih27 =>
          have B_127 : ∀ (v1 : Int) (v2 : Int) (v3 : Int) (v5 : Int) (t0 : Int) (S : MS), q_Mo_layText_127 (q_Mo_layText_13 n13) (q_Mo_layText_27 (q_Mo_layText_13 n13) n27) v1 v2 v3 v5 t0 S = some (r, S9) → jw X 0 0 (moL D g S) [(0, .ref (g 0)), (1, .int (ii v1)), (2, .int (ii v2)), (3, .int (ii v3)), (5, .int (ii v5))] 127 [.int (ii t0)] := by
            intro v1 v2 v3 v5 t0 S hs
            rw [q_Mo_layText_127] at hs
            refine jr_istore [(4, .int (ii t0)), (0, .ref (g 0)), (1, .int (ii v1)), (2, .int (ii v2)), (3, .int (ii v3)), (5, .int (ii v5))] ok d_Mo_layText_127 (by rw [hN]; decide) rfl ?_
            refine jr_iinc [(5, .int (ii (v5 + 1))), (4, .int (ii t0)), (0, .ref (g 0)), (1, .int (ii v1)), (2, .int (ii v2)), (3, .int (ii v3))] 5 ok d_Mo_layText_129 rfl (by rw [hN]; decide) rfl ?_
            refine jr_goto 27 ok d_Mo_layText_132 (by decide) ?_
            exact jr_lv [2, 3, 4, 5, 1, 0] rfl (ih27 v1 v2 v3 t0 (v5 + 1) S hs)
          have B_42 : ∀ (n42 : Nat), ∀ (v1 : Int) (v2 : Int) (v3 : Int) (v4 : Int) (v5 : Int) (v6 : Int) (v7 : Int) (S : MS), q_Mo_layText_42 (q_Mo_layText_13 n13) (q_Mo_layText_27 (q_Mo_layText_13 n13) n27) n42 v1 v2 v3 v4 v5 v6 v7 S = some (r, S9) → jw X 0 0 (moL D g S) [(0, .ref (g 0)), (1, .int (ii v1)), (2, .int (ii v2)), (3, .int (ii v3)), (4, .int (ii v4)), (5, .int (ii v5)), (6, .int (ii v6)), (7, .int (ii v7))] 42 [] := by
            intro n42
            induction n42 with
            | zero =>
              intro v1 v2 v3 v4 v5 v6 v7 S hs
              rw [q_Mo_layText_42] at hs; cases hs
            | succ n42 ih42 =>
              have B_105 : ∀ (v1 : Int) (v2 : Int) (v3 : Int) (v4 : Int) (v5 : Int) (v7 : Int) (t0 : Int) (t1 : Int) (S : MS), q_Mo_layText_105 (q_Mo_layText_13 n13) (q_Mo_layText_27 (q_Mo_layText_13 n13) n27) (q_Mo_layText_42 (q_Mo_layText_13 n13) (q_Mo_layText_27 (q_Mo_layText_13 n13) n27) n42) v1 v2 v3 v4 v5 v7 t0 t1 S = some (r, S9) → jw X 0 0 (moL D g S) [(0, .ref (g 0)), (1, .int (ii v1)), (2, .int (ii v2)), (3, .int (ii v3)), (4, .int (ii v4)), (5, .int (ii v5)), (7, .int (ii v7))] 105 [.int (ii t0), .int (ii t1)] := by
                intro v1 v2 v3 v4 v5 v7 t0 t1 S hs
                rw [q_Mo_layText_105] at hs
                refine jr_iadd ok d_Mo_layText_105 ?_
                refine jr_istore [(6, .int (ii (t1 + t0))), (0, .ref (g 0)), (1, .int (ii v1)), (2, .int (ii v2)), (3, .int (ii v3)), (4, .int (ii v4)), (5, .int (ii v5)), (7, .int (ii v7))] ok d_Mo_layText_106 (by rw [hN]; decide) rfl ?_
                refine jr_iinc [(7, .int (ii (v7 + 1))), (6, .int (ii (t1 + t0))), (0, .ref (g 0)), (1, .int (ii v1)), (2, .int (ii v2)), (3, .int (ii v3)), (4, .int (ii v4)), (5, .int (ii v5))] 7 ok d_Mo_layText_108 rfl (by rw [hN]; decide) rfl ?_
                refine jr_goto 42 ok d_Mo_layText_111 (by decide) ?_
                exact jr_lv [2, 3, 4, 5, 6, 7, 1, 0] rfl (ih42 v1 v2 v3 v4 v5 (t1 + t0) (v7 + 1) S hs)
              intro v1 v2 v3 v4 v5 v6 v7 S hs
              rw [q_Mo_layText_42] at hs
              refine jr_iload ok 7 d_Mo_layText_42 rfl ?_
              refine jr_aload_n ok 0 d_Mo_layText_44 rfl rfl ?_
              refine jr_get (v := .int (ii S.m_labelCount)) ok 0 f_Mo_118 rfl rfl d_Mo_layText_45 ?_
              refine jr_wicmp_ge 114 ok rfl rfl d_Mo_layText_48 (by decide) (fun c24 => ?_) (fun c24 => ?_)
              · replace hs := oq_pos c24 hs
                refine jr_iload ok 6 d_Mo_layText_114 rfl ?_
                refine jr_iload_n ok 3 d_Mo_layText_116 rfl rfl ?_
                refine jr_wicmp_ne 125 ok rfl rfl d_Mo_layText_117 (by decide) (fun c25 => ?_) (fun c25 => ?_)
                · replace hs := oq_neg c25 hs
                  refine jr_iload ok 4 d_Mo_layText_125 rfl ?_
                  exact jr_lv [0, 1, 2, 3, 5] rfl (B_127 v1 v2 v3 v5 v4 S hs)
                · replace hs := oq_pos c25 hs
                  refine jr_iload ok 5 d_Mo_layText_120 rfl ?_
                  refine jr_goto 127 ok d_Mo_layText_122 (by decide) ?_
                  exact jr_lv [0, 1, 2, 3, 5] rfl (B_127 v1 v2 v3 v5 v5 S hs)
              · replace hs := oq_neg c24 hs
                refine jr_iload ok 6 d_Mo_layText_51 rfl ?_
                refine jr_aload_n ok 0 d_Mo_layText_53 rfl rfl ?_
                refine jr_aload_n ok 0 d_Mo_layText_54 rfl rfl ?_
                refine jr_get (v := .ref (g 9)) ok 0 f_Mo_38 rfl rfl d_Mo_layText_55 ?_
                refine jr_iconst ok d_Mo_layText_58 ?_
                refine jr_iload ok 7 d_Mo_layText_59 rfl ?_
                refine jr_imul ok d_Mo_layText_61 ?_
                obtain ⟨hb26, hs⟩ := oq_if hs
                refine jr_iald ok 9 rfl rfl hb26.1 hb26.2 d_Mo_layText_62 ?_
                refine jr_aload_n ok 0 d_Mo_layText_63 rfl rfl ?_
                refine jr_get (v := .ref (g 9)) ok 0 f_Mo_38 rfl rfl d_Mo_layText_64 ?_
                refine jr_iconst ok d_Mo_layText_67 ?_
                refine jr_iload ok 7 d_Mo_layText_68 rfl ?_
                refine jr_imul ok d_Mo_layText_70 ?_
                refine jr_iconst ok d_Mo_layText_71 ?_
                refine jr_iadd ok d_Mo_layText_72 ?_
                obtain ⟨hb27, hs⟩ := oq_if hs
                refine jr_iald ok 9 rfl rfl hb27.1 hb27.2 d_Mo_layText_73 ?_
                refine jr_aload_n ok 0 d_Mo_layText_74 rfl rfl ?_
                refine jr_get (v := .ref (g 9)) ok 0 f_Mo_38 rfl rfl d_Mo_layText_75 ?_
                refine jr_iconst ok d_Mo_layText_78 ?_
                refine jr_iload ok 5 d_Mo_layText_79 rfl ?_
                refine jr_imul ok d_Mo_layText_81 ?_
                obtain ⟨hb28, hs⟩ := oq_if hs
                refine jr_iald ok 9 rfl rfl hb28.1 hb28.2 d_Mo_layText_82 ?_
                refine jr_aload_n ok 0 d_Mo_layText_83 rfl rfl ?_
                refine jr_get (v := .ref (g 9)) ok 0 f_Mo_38 rfl rfl d_Mo_layText_84 ?_
                refine jr_iconst ok d_Mo_layText_87 ?_
                refine jr_iload ok 5 d_Mo_layText_88 rfl ?_
                refine jr_imul ok d_Mo_layText_90 ?_
                refine jr_iconst ok d_Mo_layText_91 ?_
                refine jr_iadd ok d_Mo_layText_92 ?_
                obtain ⟨hb29, hs⟩ := oq_if hs
                refine jr_iald ok 9 rfl rfl hb29.1 hb29.2 d_Mo_layText_93 ?_
                obtain ⟨r30, S30, hc30, hs⟩ := mb2_some hs
                refine jr_mV1 ok hR m_Mo_129 (c_Mo_compare (jx_l X) D g S (S.m_labels (4 * v7)) (S.m_labels ((4 * v7) + 1)) (S.m_labels (4 * v5)) (S.m_labels ((4 * v5) + 1)) r30 S30 hc30) rfl rfl rfl rfl (Nat.le_of_ble_eq_true rfl) ⟨Nat.le_of_ble_eq_true rfl, Nat.le_of_ble_eq_true rfl⟩ ⟨Nat.zero_le _, Nat.zero_le _⟩ d_Mo_layText_94 ?_
                refine jr_wif_ge 104 ok rfl d_Mo_layText_97 (by decide) (fun c31 => ?_) (fun c31 => ?_)
                · replace hs := oq_pos c31 hs
                  refine jr_iconst ok d_Mo_layText_104 ?_
                  exact jr_lv [0, 1, 2, 3, 4, 5, 7] rfl (B_105 v1 v2 v3 v4 v5 v7 0 v6 S30 hs)
                · replace hs := oq_neg c31 hs
                  refine jr_iconst ok d_Mo_layText_100 ?_
                  refine jr_goto 105 ok d_Mo_layText_101 (by decide) ?_
                  exact jr_lv [0, 1, 2, 3, 4, 5, 7] rfl (B_105 v1 v2 v3 v4 v5 v7 1 v6 S30 hs)
          intro v1 v2 v3 v4 v5 S hs
          rw [q_Mo_layText_27] at hs
          refine jr_iload ok 5 d_Mo_layText_27 rfl ?_
          refine jr_aload_n ok 0 d_Mo_layText_29 rfl rfl ?_
          refine jr_get (v := .int (ii S.m_labelCount)) ok 0 f_Mo_118 rfl rfl d_Mo_layText_30 ?_
          refine jr_wicmp_ge 135 ok rfl rfl d_Mo_layText_33 (by decide) (fun c21 => ?_) (fun c21 => ?_)
          · replace hs := oq_pos c21 hs
            refine jr_iload_n ok 3 d_Mo_layText_135 rfl rfl ?_
            refine jr_wif_le 152 ok rfl d_Mo_layText_136 (by decide) (fun c22 => ?_) (fun c22 => ?_)
            · replace hs := oq_pos c22 hs
              exact jr_lv [0, 1, 2, 3, 4] rfl (B_152 v1 v2 v3 v4 S hs)
            · replace hs := oq_neg c22 hs
              refine jr_aload_n ok 0 d_Mo_layText_139 rfl rfl ?_
              refine jr_get (v := .ref (g 2)) ok 0 f_Mo_15 rfl rfl d_Mo_layText_140 ?_
              refine jr_iload_n ok 1 d_Mo_layText_143 rfl rfl ?_
              refine jr_iload_n ok 2 d_Mo_layText_144 rfl rfl ?_
              refine jr_iadd ok d_Mo_layText_145 ?_
              refine jr_bipush ok d_Mo_layText_146 (by decide +kernel) ?_
              obtain ⟨hb23, hs⟩ := oq_if hs
              refine jr_bast (moL D g (MS.w_m_texts S (aU S.m_texts (v1 + v2) 44))) ok 2 rfl rfl hb23.1 hb23.2 (by decide +kernel) rfl d_Mo_layText_148 ?_
              refine jr_iinc [(2, .int (ii (v2 + 1))), (0, .ref (g 0)), (1, .int (ii v1)), (3, .int (ii v3)), (4, .int (ii v4)), (5, .int (ii v5))] 2 ok d_Mo_layText_149 rfl (by rw [hN]; decide) rfl ?_
              exact jr_lv [1, 2, 0, 3, 4] rfl (B_152 v1 (v2 + 1) v3 v4 (MS.w_m_texts S (aU S.m_texts (v1 + v2) 44)) hs)
          · replace hs := oq_neg c21 hs
            refine jr_iconst ok d_Mo_layText_36 ?_
            refine jr_istore [(6, .int (ii 0)), (0, .ref (g 0)), (1, .int (ii v1)), (2, .int (ii v2)), (3, .int (ii v3)), (4, .int (ii v4)), (5, .int (ii v5))] ok d_Mo_layText_37 (by rw [hN]; decide) rfl ?_
            refine jr_iconst ok d_Mo_layText_39 ?_
            refine jr_istore [(7, .int (ii 0)), (6, .int (ii 0)), (0, .ref (g 0)), (1, .int (ii v1)), (2, .int (ii v2)), (3, .int (ii v3)), (4, .int (ii v4)), (5, .int (ii v5))] ok d_Mo_layText_40 (by rw [hN]; decide) rfl ?_
            exact jr_lv [2, 3, 4, 5, 6, 7, 1, 0] rfl (B_42 fU v1 v2 v3 v4 v5 0 0 S hs)
      intro v1 v2 v3 S hs
      rw [q_Mo_layText_13] at hs
      refine jr_iload_n ok 3 d_Mo_layText_13 rfl rfl ?_
      refine jr_aload_n ok 0 d_Mo_layText_14 rfl rfl ?_
      refine jr_get (v := .int (ii S.m_labelCount)) ok 0 f_Mo_118 rfl rfl d_Mo_layText_15 ?_
      refine jr_wicmp_ge 229 ok rfl rfl d_Mo_layText_18 (by decide) (fun c20 => ?_) (fun c20 => ?_)
      · replace hs := oq_pos c20 hs
        refine jr_iload_n ok 2 d_Mo_layText_229 rfl rfl ?_
        exact jm_iret (Lf := moL D g) ok fin hs d_Mo_layText_230
      · replace hs := oq_neg c20 hs
        refine jr_iconst ok d_Mo_layText_21 ?_
        refine jr_istore [(4, .int (ii 0)), (0, .ref (g 0)), (1, .int (ii v1)), (2, .int (ii v2)), (3, .int (ii v3))] ok d_Mo_layText_22 (by rw [hN]; decide) rfl ?_
        refine jr_iconst ok d_Mo_layText_24 ?_
        refine jr_istore [(5, .int (ii 0)), (4, .int (ii 0)), (0, .ref (g 0)), (1, .int (ii v1)), (2, .int (ii v2)), (3, .int (ii v3))] ok d_Mo_layText_25 (by rw [hN]; decide) rfl ?_
        exact jr_lv [2, 3, 4, 5, 1, 0] rfl (B_27 fU v1 v2 v3 0 0 S hs)
  show jw X 0 0 (moL D g S) [(0, .ref (g 0))] 0 []
  rw [s_Mo_layText] at hs
  refine jr_sipush ok d_Mo_layText_0 (by decide +kernel) ?_
  refine jr_aload_n ok 0 d_Mo_layText_3 rfl rfl ?_
  refine jr_get (v := .int (ii S.m_seriesCount)) ok 0 f_Mo_133 rfl rfl d_Mo_layText_4 ?_
  refine jr_imul ok d_Mo_layText_7 ?_
  refine jr_istore_n [(1, .int (ii (304 * S.m_seriesCount))), (0, .ref (g 0))] ok d_Mo_layText_8 rfl (by rw [hN]; decide) rfl ?_
  refine jr_iconst ok d_Mo_layText_9 ?_
  refine jr_istore_n [(2, .int (ii 0)), (1, .int (ii (304 * S.m_seriesCount))), (0, .ref (g 0))] ok d_Mo_layText_10 rfl (by rw [hN]; decide) rfl ?_
  refine jr_iconst ok d_Mo_layText_11 ?_
  refine jr_istore_n [(3, .int (ii 0)), (2, .int (ii 0)), (1, .int (ii (304 * S.m_seriesCount))), (0, .ref (g 0))] ok d_Mo_layText_12 rfl (by rw [hN]; decide) rfl ?_
  exact jr_lv [3, 2, 1, 0] rfl (B_13 fU (304 * S.m_seriesCount) 0 0 S hs)

def q_Mo_append_19 (v1 : Int) (v2 : Int64) (v4 : Int64) (t0 : Int) (S : MS) : Option (Int × MS) := if w32 t0 ≤ 0 then mb2 (s_Mo_come (MS.w_m_code S t0) v1 v2 v4) (fun r7 S7 => some (S7.m_head, S7)) else some (0, MS.w_m_code S t0)

def s_Mo_append (S : MS) (v1 : Int) (v2 : Int64) (v4 : Int64) : Option (Int × MS) := mb2 (s_Mo_isSeries S v1) (fun r8 S8 => if w32 r8 = 0 then q_Mo_append_19 v1 v2 v4 1 S8 else mb2 (s_Mo_why S8 v1 v2) (fun r10 S10 => q_Mo_append_19 v1 v2 v4 r10 S10))
set_option maxHeartbeats 4000000 in
set_option maxRecDepth 100000 in
theorem c_Mo_append (l : Launch) (D : jd_T) (g : Nat → Nat) (S : MS) (v1 : Int) (v2 : Int64) (v4 : Int64) (r : Int) (S9 : MS) (hs : s_Mo_append S v1 v2 v4 = some (r, S9)) : jc_C l D y_Mo_append b_Mo_append 6 (some .int) { frames := 1, cells := 0, slots := 0, locals := 25 } [.ref (g 0), .int (ii v1), .long v2, .long v4] (moL D g S) (fun _ : Unit => (.returned (some (.int (ii r))), True, (moL D g S9))) := by
  refine jc_of rfl (Nat.le_of_ble_eq_true rfl) ?_
  intro X hl hR hN ok hnm fin
  subst hl
  have B_19 : ∀ (v1 : Int) (v2 : Int64) (v4 : Int64) (t0 : Int) (S : MS), q_Mo_append_19 v1 v2 v4 t0 S = some (r, S9) → jw X 0 0 (moL D g S) [(0, .ref (g 0)), (1, .int (ii v1)), (2, .long v2), (4, .long v4)] 19 [.int (ii t0), .ref (g 0)] := by
    intro v1 v2 v4 t0 S hs
    rw [q_Mo_append_19] at hs
    refine jr_put (moL D g (MS.w_m_code S t0)) ok 0 f_Mo_101 rfl rfl rfl (Nat.le_of_ble_eq_true rfl) rfl d_Mo_append_19 ?_
    refine jr_aload_n ok 0 d_Mo_append_22 rfl rfl ?_
    refine jr_get (v := .int (ii t0)) ok 0 f_Mo_101 rfl rfl d_Mo_append_23 ?_
    refine jr_wif_le 31 ok rfl d_Mo_append_26 (by decide) (fun c6 => ?_) (fun c6 => ?_)
    · replace hs := oq_pos c6 hs
      refine jr_aload_n ok 0 d_Mo_append_31 rfl rfl ?_
      refine jr_iload_n ok 1 d_Mo_append_32 rfl rfl ?_
      refine jr_lload_n ok 2 d_Mo_append_33 rfl rfl ?_
      refine jr_lload ok 3 d_Mo_append_34 rfl ?_
      obtain ⟨r7, S7, hc7, hs⟩ := mb2_some hs
      refine jr_mV0 ok hR m_Mo_168 (c_Mo_come (jx_l X) D g (MS.w_m_code S t0) v1 v2 v4 r7 S7 hc7) rfl rfl rfl rfl (Nat.le_of_ble_eq_true rfl) ⟨Nat.le_of_ble_eq_true rfl, Nat.le_of_ble_eq_true rfl⟩ ⟨Nat.zero_le _, Nat.zero_le _⟩ d_Mo_append_36 ?_
      refine jr_aload_n ok 0 d_Mo_append_39 rfl rfl ?_
      refine jr_get (v := .int (ii S7.m_head)) ok 0 f_Mo_161 rfl rfl d_Mo_append_40 ?_
      exact jm_iret (Lf := moL D g) ok fin hs d_Mo_append_43
    · replace hs := oq_neg c6 hs
      refine jr_iconst ok d_Mo_append_29 ?_
      exact jm_iret (Lf := moL D g) ok fin hs d_Mo_append_30
  show jw X 0 0 (moL D g S) [(0, .ref (g 0)), (1, .int (ii v1)), (2, .long v2), (4, .long v4)] 0 []
  rw [s_Mo_append] at hs
  refine jr_aload_n ok 0 d_Mo_append_0 rfl rfl ?_
  refine jr_aload_n ok 0 d_Mo_append_1 rfl rfl ?_
  refine jr_iload_n ok 1 d_Mo_append_2 rfl rfl ?_
  obtain ⟨r8, S8, hc8, hs⟩ := mb2_some hs
  refine jr_mV1 ok hR m_Mo_149 (c_Mo_isSeries (jx_l X) D g S v1 r8 S8 hc8) rfl rfl rfl rfl (Nat.le_of_ble_eq_true rfl) ⟨Nat.le_of_ble_eq_true rfl, Nat.le_of_ble_eq_true rfl⟩ ⟨Nat.zero_le _, Nat.zero_le _⟩ d_Mo_append_3 ?_
  refine jr_wif_eq 18 ok rfl d_Mo_append_6 (by decide) (fun c9 => ?_) (fun c9 => ?_)
  · replace hs := oq_pos c9 hs
    refine jr_iconst ok d_Mo_append_18 ?_
    exact jr_lv [0, 1, 2, 3] rfl (B_19 v1 v2 v4 1 S8 hs)
  · replace hs := oq_neg c9 hs
    refine jr_aload_n ok 0 d_Mo_append_9 rfl rfl ?_
    refine jr_iload_n ok 1 d_Mo_append_10 rfl rfl ?_
    refine jr_lload_n ok 2 d_Mo_append_11 rfl rfl ?_
    obtain ⟨r10, S10, hc10, hs⟩ := mb2_some hs
    refine jr_mV1 ok hR m_Mo_164 (c_Mo_why (jx_l X) D g S8 v1 v2 r10 S10 hc10) rfl rfl rfl rfl (Nat.le_of_ble_eq_true rfl) ⟨Nat.le_of_ble_eq_true rfl, Nat.le_of_ble_eq_true rfl⟩ ⟨Nat.zero_le _, Nat.zero_le _⟩ d_Mo_append_12 ?_
    refine jr_goto 19 ok d_Mo_append_15 (by decide) ?_
    exact jr_lv [0, 1, 2, 3] rfl (B_19 v1 v2 v4 r10 S10 hs)

def q_Mo_readSign_175 (t0 : Int) (t1 : Int) (S : MS) : Option (Int × MS) := some (1, MS.w_m_to S (t1 + t0))

def q_Mo_readSign_158 (v3 : Int) (t0 : Int) (S : MS) : Option (Int × MS) := if w32 v3 ≤ 0 then q_Mo_readSign_175 1 S.m_from (MS.w_m_kind S t0) else q_Mo_readSign_175 2 S.m_from (MS.w_m_kind S t0)

def q_Mo_readSign_148 (v1 : Int) (v3 : Int) (S : MS) : Option (Int × MS) := if w32 v3 ≤ 0 then q_Mo_readSign_158 v3 v1 S else q_Mo_readSign_158 v3 v3 S

def q_Mo_readSign_127 (v1 : Int) (v3 : Int) (t0 : Int) (S : MS) : Option (Int × MS) := if w32 v3 = 0 then if w32 t0 = 0 then mb2 (s_Mo_flaw S 1 S.m_from) (fun r41 S41 => if r41 = 0 ∨ r41 = 1 then some (r41, S41) else none) else q_Mo_readSign_148 v1 v3 S else q_Mo_readSign_148 v1 v3 S

def q_Mo_readSign_122 (v1 : Int) (v3 : Int) (S : MS) : Option (Int × MS) := q_Mo_readSign_127 v1 v3 1 S

def q_Mo_readSign_55 (v1 : Int) (t0 : Int) (S : MS) : Option (Int × MS) := if w32 v1 = 43 then q_Mo_readSign_122 v1 t0 S else if w32 v1 = 45 then q_Mo_readSign_122 v1 t0 S else if w32 v1 = 42 then q_Mo_readSign_122 v1 t0 S else if w32 v1 = 47 then q_Mo_readSign_122 v1 t0 S else if w32 v1 = 37 then q_Mo_readSign_122 v1 t0 S else if w32 v1 = 40 then q_Mo_readSign_122 v1 t0 S else if w32 v1 = 41 then q_Mo_readSign_122 v1 t0 S else if w32 v1 = 123 then q_Mo_readSign_122 v1 t0 S else if w32 v1 = 125 then q_Mo_readSign_122 v1 t0 S else if w32 v1 = 44 then q_Mo_readSign_122 v1 t0 S else if w32 v1 = 61 then q_Mo_readSign_122 v1 t0 S else q_Mo_readSign_127 v1 t0 0 S

def q_Mo_readSign_54 (v1 : Int) (S : MS) : Option (Int × MS) := q_Mo_readSign_55 v1 0 S

def q_Mo_readSign_36 (v1 : Int) (v2 : Int) (S : MS) : Option (Int × MS) := if w32 v1 = 33 then if w32 v2 = 94 then q_Mo_readSign_55 v1 258 S else q_Mo_readSign_54 v1 S else q_Mo_readSign_54 v1 S

def q_Mo_readSign_18 (v1 : Int) (v2 : Int) (S : MS) : Option (Int × MS) := if w32 v1 = 94 then if w32 v2 = 61 then q_Mo_readSign_55 v1 257 S else q_Mo_readSign_36 v1 v2 S else q_Mo_readSign_36 v1 v2 S

def s_Mo_readSign (S : MS) (v1 : Int) (v2 : Int) : Option (Int × MS) := if w32 v1 = 33 then if w32 v2 = 61 then q_Mo_readSign_55 v1 256 S else q_Mo_readSign_18 v1 v2 S else q_Mo_readSign_18 v1 v2 S
set_option maxHeartbeats 4000000 in
set_option maxRecDepth 100000 in
theorem c_Mo_readSign (l : Launch) (D : jd_T) (g : Nat → Nat) (S : MS) (v1 : Int) (v2 : Int) (r : Int) (S9 : MS) (hs : s_Mo_readSign S v1 v2 = some (r, S9)) : jc_C l D y_Mo_readSign b_Mo_readSign 5 (some .boolean) { frames := 1, cells := 0, slots := 0, locals := 22 } [.ref (g 0), .int (ii v1), .int (ii v2)] (moL D g S) (fun _ : Unit => (.returned (some (.int (ii r))), True, (moL D g S9))) := by
  refine jc_of rfl (Nat.le_of_ble_eq_true rfl) ?_
  intro X hl hR hN ok hnm fin
  subst hl
  have B_175 : ∀ (t0 : Int) (t1 : Int) (S : MS), q_Mo_readSign_175 t0 t1 S = some (r, S9) → jw X 0 0 (moL D g S) [] 175 [.int (ii t0), .int (ii t1), .ref (g 0)] := by
    intro t0 t1 S hs
    rw [q_Mo_readSign_175] at hs
    refine jr_iadd ok d_Mo_readSign_175 ?_
    refine jr_put (moL D g (MS.w_m_to S (t1 + t0))) ok 0 f_Mo_192 rfl rfl rfl (Nat.le_of_ble_eq_true rfl) rfl d_Mo_readSign_176 ?_
    refine jr_iconst ok d_Mo_readSign_179 ?_
    exact jm_zret (Lf := moL D g) ok (by decide +kernel) fin hs d_Mo_readSign_180
  have B_158 : ∀ (v3 : Int) (t0 : Int) (S : MS), q_Mo_readSign_158 v3 t0 S = some (r, S9) → jw X 0 0 (moL D g S) [(0, .ref (g 0)), (3, .int (ii v3))] 158 [.int (ii t0), .ref (g 0)] := by
    intro v3 t0 S hs
    rw [q_Mo_readSign_158] at hs
    refine jr_put (moL D g (MS.w_m_kind S t0)) ok 0 f_Mo_201 rfl rfl rfl (Nat.le_of_ble_eq_true rfl) rfl d_Mo_readSign_158 ?_
    refine jr_aload_n ok 0 d_Mo_readSign_161 rfl rfl ?_
    refine jr_aload_n ok 0 d_Mo_readSign_162 rfl rfl ?_
    refine jr_get (v := .int (ii S.m_from)) ok 0 f_Mo_195 rfl rfl d_Mo_readSign_163 ?_
    refine jr_iload_n ok 1 d_Mo_readSign_166 rfl rfl ?_
    refine jr_wif_le 174 ok rfl d_Mo_readSign_167 (by decide) (fun c44 => ?_) (fun c44 => ?_)
    · replace hs := oq_pos c44 hs
      refine jr_iconst ok d_Mo_readSign_174 ?_
      exact jr_lv [] rfl (B_175 1 S.m_from (MS.w_m_kind S t0) hs)
    · replace hs := oq_neg c44 hs
      refine jr_iconst ok d_Mo_readSign_170 ?_
      refine jr_goto 175 ok d_Mo_readSign_171 (by decide) ?_
      exact jr_lv [] rfl (B_175 2 S.m_from (MS.w_m_kind S t0) hs)
  have B_148 : ∀ (v1 : Int) (v3 : Int) (S : MS), q_Mo_readSign_148 v1 v3 S = some (r, S9) → jw X 0 0 (moL D g S) [(0, .ref (g 0)), (1, .int (ii v1)), (3, .int (ii v3))] 148 [] := by
    intro v1 v3 S hs
    rw [q_Mo_readSign_148] at hs
    refine jr_aload_n ok 0 d_Mo_readSign_148 rfl rfl ?_
    refine jr_iload_n ok 2 d_Mo_readSign_149 rfl rfl ?_
    refine jr_wif_le 157 ok rfl d_Mo_readSign_150 (by decide) (fun c43 => ?_) (fun c43 => ?_)
    · replace hs := oq_pos c43 hs
      refine jr_iload_n ok 1 d_Mo_readSign_157 rfl rfl ?_
      exact jr_lv [0, 2] rfl (B_158 v3 v1 S hs)
    · replace hs := oq_neg c43 hs
      refine jr_iload_n ok 2 d_Mo_readSign_153 rfl rfl ?_
      refine jr_goto 158 ok d_Mo_readSign_154 (by decide) ?_
      exact jr_lv [0, 2] rfl (B_158 v3 v3 S hs)
  have B_127 : ∀ (v1 : Int) (v3 : Int) (t0 : Int) (S : MS), q_Mo_readSign_127 v1 v3 t0 S = some (r, S9) → jw X 0 0 (moL D g S) [(0, .ref (g 0)), (1, .int (ii v1)), (3, .int (ii v3))] 127 [.int (ii t0)] := by
    intro v1 v3 t0 S hs
    rw [q_Mo_readSign_127] at hs
    refine jr_istore [(4, .int (ii t0)), (0, .ref (g 0)), (1, .int (ii v1)), (3, .int (ii v3))] ok d_Mo_readSign_127 (by rw [hN]; decide) rfl ?_
    refine jr_iload_n ok 3 d_Mo_readSign_129 rfl rfl ?_
    refine jr_wif_ne 148 ok rfl d_Mo_readSign_130 (by decide) (fun c39 => ?_) (fun c39 => ?_)
    · replace hs := oq_neg c39 hs
      exact jr_lv [1, 2, 3] rfl (B_148 v1 v3 S hs)
    · replace hs := oq_pos c39 hs
      refine jr_iload ok 0 d_Mo_readSign_133 rfl ?_
      refine jr_wif_ne 148 ok rfl d_Mo_readSign_135 (by decide) (fun c40 => ?_) (fun c40 => ?_)
      · replace hs := oq_neg c40 hs
        exact jr_lv [1, 2, 3] rfl (B_148 v1 v3 S hs)
      · replace hs := oq_pos c40 hs
        refine jr_aload_n ok 1 d_Mo_readSign_138 rfl rfl ?_
        refine jr_iconst ok d_Mo_readSign_139 ?_
        refine jr_aload_n ok 1 d_Mo_readSign_140 rfl rfl ?_
        refine jr_get (v := .int (ii S.m_from)) ok 0 f_Mo_195 rfl rfl d_Mo_readSign_141 ?_
        obtain ⟨r41, S41, hc41, hs⟩ := mb2_some hs
        refine jr_mV1 ok hR m_Mo_125 (c_Mo_flaw (jx_l X) D g S 1 S.m_from r41 S41 hc41) rfl rfl rfl rfl (Nat.le_of_ble_eq_true rfl) ⟨Nat.le_of_ble_eq_true rfl, Nat.le_of_ble_eq_true rfl⟩ ⟨Nat.zero_le _, Nat.zero_le _⟩ d_Mo_readSign_144 ?_
        obtain ⟨hb42, hs⟩ := oq_if hs
        exact jm_zret (Lf := moL D g) ok (nz_b hb42) fin hs d_Mo_readSign_147
  have B_122 : ∀ (v1 : Int) (v3 : Int) (S : MS), q_Mo_readSign_122 v1 v3 S = some (r, S9) → jw X 0 0 (moL D g S) [(0, .ref (g 0)), (1, .int (ii v1)), (3, .int (ii v3))] 122 [] := by
    intro v1 v3 S hs
    rw [q_Mo_readSign_122] at hs
    refine jr_iconst ok d_Mo_readSign_122 ?_
    refine jr_goto 127 ok d_Mo_readSign_123 (by decide) ?_
    exact jr_lv [0, 1, 2] rfl (B_127 v1 v3 1 S hs)
  have B_55 : ∀ (v1 : Int) (t0 : Int) (S : MS), q_Mo_readSign_55 v1 t0 S = some (r, S9) → jw X 0 0 (moL D g S) [(0, .ref (g 0)), (1, .int (ii v1))] 55 [.int (ii t0)] := by
    intro v1 t0 S hs
    rw [q_Mo_readSign_55] at hs
    refine jr_istore_n [(3, .int (ii t0)), (0, .ref (g 0)), (1, .int (ii v1))] ok d_Mo_readSign_55 rfl (by rw [hN]; decide) rfl ?_
    refine jr_iload_n ok 2 d_Mo_readSign_56 rfl rfl ?_
    refine jr_bipush ok d_Mo_readSign_57 (by decide +kernel) ?_
    refine jr_wicmp_eq 122 ok rfl (show w32 43 = 43 by decide) d_Mo_readSign_59 (by decide) (fun c28 => ?_) (fun c28 => ?_)
    · replace hs := oq_pos c28 hs
      exact jr_lv [1, 2, 0] rfl (B_122 v1 t0 S hs)
    · replace hs := oq_neg c28 hs
      refine jr_iload_n ok 2 d_Mo_readSign_62 rfl rfl ?_
      refine jr_bipush ok d_Mo_readSign_63 (by decide +kernel) ?_
      refine jr_wicmp_eq 122 ok rfl (show w32 45 = 45 by decide) d_Mo_readSign_65 (by decide) (fun c29 => ?_) (fun c29 => ?_)
      · replace hs := oq_pos c29 hs
        exact jr_lv [1, 2, 0] rfl (B_122 v1 t0 S hs)
      · replace hs := oq_neg c29 hs
        refine jr_iload_n ok 2 d_Mo_readSign_68 rfl rfl ?_
        refine jr_bipush ok d_Mo_readSign_69 (by decide +kernel) ?_
        refine jr_wicmp_eq 122 ok rfl (show w32 42 = 42 by decide) d_Mo_readSign_71 (by decide) (fun c30 => ?_) (fun c30 => ?_)
        · replace hs := oq_pos c30 hs
          exact jr_lv [1, 2, 0] rfl (B_122 v1 t0 S hs)
        · replace hs := oq_neg c30 hs
          refine jr_iload_n ok 2 d_Mo_readSign_74 rfl rfl ?_
          refine jr_bipush ok d_Mo_readSign_75 (by decide +kernel) ?_
          refine jr_wicmp_eq 122 ok rfl (show w32 47 = 47 by decide) d_Mo_readSign_77 (by decide) (fun c31 => ?_) (fun c31 => ?_)
          · replace hs := oq_pos c31 hs
            exact jr_lv [1, 2, 0] rfl (B_122 v1 t0 S hs)
          · replace hs := oq_neg c31 hs
            refine jr_iload_n ok 2 d_Mo_readSign_80 rfl rfl ?_
            refine jr_bipush ok d_Mo_readSign_81 (by decide +kernel) ?_
            refine jr_wicmp_eq 122 ok rfl (show w32 37 = 37 by decide) d_Mo_readSign_83 (by decide) (fun c32 => ?_) (fun c32 => ?_)
            · replace hs := oq_pos c32 hs
              exact jr_lv [1, 2, 0] rfl (B_122 v1 t0 S hs)
            · replace hs := oq_neg c32 hs
              refine jr_iload_n ok 2 d_Mo_readSign_86 rfl rfl ?_
              refine jr_bipush ok d_Mo_readSign_87 (by decide +kernel) ?_
              refine jr_wicmp_eq 122 ok rfl (show w32 40 = 40 by decide) d_Mo_readSign_89 (by decide) (fun c33 => ?_) (fun c33 => ?_)
              · replace hs := oq_pos c33 hs
                exact jr_lv [1, 2, 0] rfl (B_122 v1 t0 S hs)
              · replace hs := oq_neg c33 hs
                refine jr_iload_n ok 2 d_Mo_readSign_92 rfl rfl ?_
                refine jr_bipush ok d_Mo_readSign_93 (by decide +kernel) ?_
                refine jr_wicmp_eq 122 ok rfl (show w32 41 = 41 by decide) d_Mo_readSign_95 (by decide) (fun c34 => ?_) (fun c34 => ?_)
                · replace hs := oq_pos c34 hs
                  exact jr_lv [1, 2, 0] rfl (B_122 v1 t0 S hs)
                · replace hs := oq_neg c34 hs
                  refine jr_iload_n ok 2 d_Mo_readSign_98 rfl rfl ?_
                  refine jr_bipush ok d_Mo_readSign_99 (by decide +kernel) ?_
                  refine jr_wicmp_eq 122 ok rfl (show w32 123 = 123 by decide) d_Mo_readSign_101 (by decide) (fun c35 => ?_) (fun c35 => ?_)
                  · replace hs := oq_pos c35 hs
                    exact jr_lv [1, 2, 0] rfl (B_122 v1 t0 S hs)
                  · replace hs := oq_neg c35 hs
                    refine jr_iload_n ok 2 d_Mo_readSign_104 rfl rfl ?_
                    refine jr_bipush ok d_Mo_readSign_105 (by decide +kernel) ?_
                    refine jr_wicmp_eq 122 ok rfl (show w32 125 = 125 by decide) d_Mo_readSign_107 (by decide) (fun c36 => ?_) (fun c36 => ?_)
                    · replace hs := oq_pos c36 hs
                      exact jr_lv [1, 2, 0] rfl (B_122 v1 t0 S hs)
                    · replace hs := oq_neg c36 hs
                      refine jr_iload_n ok 2 d_Mo_readSign_110 rfl rfl ?_
                      refine jr_bipush ok d_Mo_readSign_111 (by decide +kernel) ?_
                      refine jr_wicmp_eq 122 ok rfl (show w32 44 = 44 by decide) d_Mo_readSign_113 (by decide) (fun c37 => ?_) (fun c37 => ?_)
                      · replace hs := oq_pos c37 hs
                        exact jr_lv [1, 2, 0] rfl (B_122 v1 t0 S hs)
                      · replace hs := oq_neg c37 hs
                        refine jr_iload_n ok 2 d_Mo_readSign_116 rfl rfl ?_
                        refine jr_bipush ok d_Mo_readSign_117 (by decide +kernel) ?_
                        refine jr_wicmp_ne 126 ok rfl (show w32 61 = 61 by decide) d_Mo_readSign_119 (by decide) (fun c38 => ?_) (fun c38 => ?_)
                        · replace hs := oq_neg c38 hs
                          refine jr_iconst ok d_Mo_readSign_126 ?_
                          exact jr_lv [1, 2, 0] rfl (B_127 v1 t0 0 S hs)
                        · replace hs := oq_pos c38 hs
                          exact jr_lv [1, 2, 0] rfl (B_122 v1 t0 S hs)
  have B_54 : ∀ (v1 : Int) (S : MS), q_Mo_readSign_54 v1 S = some (r, S9) → jw X 0 0 (moL D g S) [(0, .ref (g 0)), (1, .int (ii v1))] 54 [] := by
    intro v1 S hs
    rw [q_Mo_readSign_54] at hs
    refine jr_iconst ok d_Mo_readSign_54 ?_
    exact jr_lv [0, 1] rfl (B_55 v1 0 S hs)
  have B_36 : ∀ (v1 : Int) (v2 : Int) (S : MS), q_Mo_readSign_36 v1 v2 S = some (r, S9) → jw X 0 0 (moL D g S) [(0, .ref (g 0)), (1, .int (ii v1)), (2, .int (ii v2))] 36 [] := by
    intro v1 v2 S hs
    rw [q_Mo_readSign_36] at hs
    refine jr_iload_n ok 1 d_Mo_readSign_36 rfl rfl ?_
    refine jr_bipush ok d_Mo_readSign_37 (by decide +kernel) ?_
    refine jr_wicmp_ne 54 ok rfl (show w32 33 = 33 by decide) d_Mo_readSign_39 (by decide) (fun c26 => ?_) (fun c26 => ?_)
    · replace hs := oq_neg c26 hs
      exact jr_lv [0, 1] rfl (B_54 v1 S hs)
    · replace hs := oq_pos c26 hs
      refine jr_iload_n ok 2 d_Mo_readSign_42 rfl rfl ?_
      refine jr_bipush ok d_Mo_readSign_43 (by decide +kernel) ?_
      refine jr_wicmp_ne 54 ok rfl (show w32 94 = 94 by decide) d_Mo_readSign_45 (by decide) (fun c27 => ?_) (fun c27 => ?_)
      · replace hs := oq_neg c27 hs
        exact jr_lv [0, 1] rfl (B_54 v1 S hs)
      · replace hs := oq_pos c27 hs
        refine jr_sipush ok d_Mo_readSign_48 (by decide +kernel) ?_
        refine jr_goto 55 ok d_Mo_readSign_51 (by decide) ?_
        exact jr_lv [0, 1] rfl (B_55 v1 258 S hs)
  have B_18 : ∀ (v1 : Int) (v2 : Int) (S : MS), q_Mo_readSign_18 v1 v2 S = some (r, S9) → jw X 0 0 (moL D g S) [(0, .ref (g 0)), (1, .int (ii v1)), (2, .int (ii v2))] 18 [] := by
    intro v1 v2 S hs
    rw [q_Mo_readSign_18] at hs
    refine jr_iload_n ok 1 d_Mo_readSign_18 rfl rfl ?_
    refine jr_bipush ok d_Mo_readSign_19 (by decide +kernel) ?_
    refine jr_wicmp_ne 36 ok rfl (show w32 94 = 94 by decide) d_Mo_readSign_21 (by decide) (fun c24 => ?_) (fun c24 => ?_)
    · replace hs := oq_neg c24 hs
      exact jr_lv [0, 1, 2] rfl (B_36 v1 v2 S hs)
    · replace hs := oq_pos c24 hs
      refine jr_iload_n ok 2 d_Mo_readSign_24 rfl rfl ?_
      refine jr_bipush ok d_Mo_readSign_25 (by decide +kernel) ?_
      refine jr_wicmp_ne 36 ok rfl (show w32 61 = 61 by decide) d_Mo_readSign_27 (by decide) (fun c25 => ?_) (fun c25 => ?_)
      · replace hs := oq_neg c25 hs
        exact jr_lv [0, 1, 2] rfl (B_36 v1 v2 S hs)
      · replace hs := oq_pos c25 hs
        refine jr_sipush ok d_Mo_readSign_30 (by decide +kernel) ?_
        refine jr_goto 55 ok d_Mo_readSign_33 (by decide) ?_
        exact jr_lv [0, 1] rfl (B_55 v1 257 S hs)
  show jw X 0 0 (moL D g S) [(0, .ref (g 0)), (1, .int (ii v1)), (2, .int (ii v2))] 0 []
  rw [s_Mo_readSign] at hs
  refine jr_iload_n ok 1 d_Mo_readSign_0 rfl rfl ?_
  refine jr_bipush ok d_Mo_readSign_1 (by decide +kernel) ?_
  refine jr_wicmp_ne 18 ok rfl (show w32 33 = 33 by decide) d_Mo_readSign_3 (by decide) (fun c45 => ?_) (fun c45 => ?_)
  · replace hs := oq_neg c45 hs
    exact jr_lv [0, 1, 2] rfl (B_18 v1 v2 S hs)
  · replace hs := oq_pos c45 hs
    refine jr_iload_n ok 2 d_Mo_readSign_6 rfl rfl ?_
    refine jr_bipush ok d_Mo_readSign_7 (by decide +kernel) ?_
    refine jr_wicmp_ne 18 ok rfl (show w32 61 = 61 by decide) d_Mo_readSign_9 (by decide) (fun c46 => ?_) (fun c46 => ?_)
    · replace hs := oq_neg c46 hs
      exact jr_lv [0, 1, 2] rfl (B_18 v1 v2 S hs)
    · replace hs := oq_pos c46 hs
      refine jr_sipush ok d_Mo_readSign_12 (by decide +kernel) ?_
      refine jr_goto 55 ok d_Mo_readSign_15 (by decide) ?_
      exact jr_lv [0, 1] rfl (B_55 v1 256 S hs)

def q_Mo_isName_89  (S : MS) : Option (Int × MS) := some (1, S)

def q_Mo_isName_68 (v4 : Int) (v5 : Int) (S : MS) : Option (Int × MS) := if w32 v5 < 4 then q_Mo_isName_89 S else mb2 (s_Mo_at S (S.m_from + 3)) (fun r14 S14 => if w32 r14 = w32 v4 then q_Mo_isName_89 S14 else some (0, S14))

def s_Mo_isName (S : MS) (v1 : Int) (v2 : Int) (v3 : Int) (v4 : Int) (v5 : Int) : Option (Int × MS) := if w32 S.m_kind = 2 then if w32 (S.m_to - S.m_from) = w32 v5 then mb2 (s_Mo_at S S.m_from) (fun r18 S18 => if w32 r18 = w32 v1 then mb2 (s_Mo_at S18 (S18.m_from + 1)) (fun r20 S20 => if w32 r20 = w32 v2 then if w32 v5 < 3 then q_Mo_isName_68 v4 v5 S20 else mb2 (s_Mo_at S20 (S20.m_from + 2)) (fun r23 S23 => if w32 r23 = w32 v3 then q_Mo_isName_68 v4 v5 S23 else some (0, S23)) else some (0, S20)) else some (0, S18)) else some (0, S) else some (0, S)
set_option maxHeartbeats 4000000 in
set_option maxRecDepth 100000 in
theorem c_Mo_isName (l : Launch) (D : jd_T) (g : Nat → Nat) (S : MS) (v1 : Int) (v2 : Int) (v3 : Int) (v4 : Int) (v5 : Int) (r : Int) (S9 : MS) (hs : s_Mo_isName S v1 v2 v3 v4 v5 = some (r, S9)) : jc_C l D y_Mo_isName b_Mo_isName 6 (some .boolean) { frames := 1, cells := 0, slots := 0, locals := 21 } [.ref (g 0), .int (ii v1), .int (ii v2), .int (ii v3), .int (ii v4), .int (ii v5)] (moL D g S) (fun _ : Unit => (.returned (some (.int (ii r))), True, (moL D g S9))) := by
  refine jc_of rfl (Nat.le_of_ble_eq_true rfl) ?_
  intro X hl hR hN ok hnm fin
  subst hl
  have B_89 : ∀ (S : MS), q_Mo_isName_89 S = some (r, S9) → jw X 0 0 (moL D g S) [] 89 [] := by
    intro S hs
    rw [q_Mo_isName_89] at hs
    refine jr_iconst ok d_Mo_isName_89 ?_
    refine jr_goto 94 ok d_Mo_isName_90 (by decide) ?_
    exact jm_zret (Lf := moL D g) ok (by decide +kernel) fin hs d_Mo_isName_94
  have B_68 : ∀ (v4 : Int) (v5 : Int) (S : MS), q_Mo_isName_68 v4 v5 S = some (r, S9) → jw X 0 0 (moL D g S) [(0, .ref (g 0)), (4, .int (ii v4)), (5, .int (ii v5))] 68 [] := by
    intro v4 v5 S hs
    rw [q_Mo_isName_68] at hs
    refine jr_iload ok 2 d_Mo_isName_68 rfl ?_
    refine jr_iconst ok d_Mo_isName_70 ?_
    refine jr_wicmp_lt 89 ok rfl (show w32 4 = 4 by decide) d_Mo_isName_71 (by decide) (fun c13 => ?_) (fun c13 => ?_)
    · replace hs := oq_pos c13 hs
      exact jr_lv [] rfl (B_89 S hs)
    · replace hs := oq_neg c13 hs
      refine jr_aload_n ok 0 d_Mo_isName_74 rfl rfl ?_
      refine jr_aload_n ok 0 d_Mo_isName_75 rfl rfl ?_
      refine jr_get (v := .int (ii S.m_from)) ok 0 f_Mo_195 rfl rfl d_Mo_isName_76 ?_
      refine jr_iconst ok d_Mo_isName_79 ?_
      refine jr_iadd ok d_Mo_isName_80 ?_
      obtain ⟨r14, S14, hc14, hs⟩ := mb2_some hs
      refine jr_mV1 ok hR m_Mo_198 (c_Mo_at (jx_l X) D g S (S.m_from + 3) r14 S14 hc14) rfl rfl rfl rfl (Nat.le_of_ble_eq_true rfl) ⟨Nat.le_of_ble_eq_true rfl, Nat.le_of_ble_eq_true rfl⟩ ⟨Nat.zero_le _, Nat.zero_le _⟩ d_Mo_isName_81 ?_
      refine jr_iload ok 1 d_Mo_isName_84 rfl ?_
      refine jr_wicmp_ne 93 ok rfl rfl d_Mo_isName_86 (by decide) (fun c15 => ?_) (fun c15 => ?_)
      · replace hs := oq_neg c15 hs
        refine jr_iconst ok d_Mo_isName_93 ?_
        exact jm_zret (Lf := moL D g) ok (by decide +kernel) fin hs d_Mo_isName_94
      · replace hs := oq_pos c15 hs
        exact jr_lv [] rfl (B_89 S14 hs)
  show jw X 0 0 (moL D g S) [(0, .ref (g 0)), (1, .int (ii v1)), (2, .int (ii v2)), (3, .int (ii v3)), (4, .int (ii v4)), (5, .int (ii v5))] 0 []
  rw [s_Mo_isName] at hs
  refine jr_aload_n ok 0 d_Mo_isName_0 rfl rfl ?_
  refine jr_get (v := .int (ii S.m_kind)) ok 0 f_Mo_201 rfl rfl d_Mo_isName_1 ?_
  refine jr_iconst ok d_Mo_isName_4 ?_
  refine jr_wicmp_ne 93 ok rfl (show w32 2 = 2 by decide) d_Mo_isName_5 (by decide) (fun c16 => ?_) (fun c16 => ?_)
  · replace hs := oq_neg c16 hs
    refine jr_iconst ok d_Mo_isName_93 ?_
    exact jm_zret (Lf := moL D g) ok (by decide +kernel) fin hs d_Mo_isName_94
  · replace hs := oq_pos c16 hs
    refine jr_aload_n ok 0 d_Mo_isName_8 rfl rfl ?_
    refine jr_get (v := .int (ii S.m_to)) ok 0 f_Mo_192 rfl rfl d_Mo_isName_9 ?_
    refine jr_aload_n ok 0 d_Mo_isName_12 rfl rfl ?_
    refine jr_get (v := .int (ii S.m_from)) ok 0 f_Mo_195 rfl rfl d_Mo_isName_13 ?_
    refine jr_isub ok d_Mo_isName_16 ?_
    refine jr_iload ok 5 d_Mo_isName_17 rfl ?_
    refine jr_wicmp_ne 93 ok rfl rfl d_Mo_isName_19 (by decide) (fun c17 => ?_) (fun c17 => ?_)
    · replace hs := oq_neg c17 hs
      refine jr_iconst ok d_Mo_isName_93 ?_
      exact jm_zret (Lf := moL D g) ok (by decide +kernel) fin hs d_Mo_isName_94
    · replace hs := oq_pos c17 hs
      refine jr_aload_n ok 0 d_Mo_isName_22 rfl rfl ?_
      refine jr_aload_n ok 0 d_Mo_isName_23 rfl rfl ?_
      refine jr_get (v := .int (ii S.m_from)) ok 0 f_Mo_195 rfl rfl d_Mo_isName_24 ?_
      obtain ⟨r18, S18, hc18, hs⟩ := mb2_some hs
      refine jr_mV1 ok hR m_Mo_198 (c_Mo_at (jx_l X) D g S S.m_from r18 S18 hc18) rfl rfl rfl rfl (Nat.le_of_ble_eq_true rfl) ⟨Nat.le_of_ble_eq_true rfl, Nat.le_of_ble_eq_true rfl⟩ ⟨Nat.zero_le _, Nat.zero_le _⟩ d_Mo_isName_27 ?_
      refine jr_iload_n ok 1 d_Mo_isName_30 rfl rfl ?_
      refine jr_wicmp_ne 93 ok rfl rfl d_Mo_isName_31 (by decide) (fun c19 => ?_) (fun c19 => ?_)
      · replace hs := oq_neg c19 hs
        refine jr_iconst ok d_Mo_isName_93 ?_
        exact jm_zret (Lf := moL D g) ok (by decide +kernel) fin hs d_Mo_isName_94
      · replace hs := oq_pos c19 hs
        refine jr_aload_n ok 0 d_Mo_isName_34 rfl rfl ?_
        refine jr_aload_n ok 0 d_Mo_isName_35 rfl rfl ?_
        refine jr_get (v := .int (ii S18.m_from)) ok 0 f_Mo_195 rfl rfl d_Mo_isName_36 ?_
        refine jr_iconst ok d_Mo_isName_39 ?_
        refine jr_iadd ok d_Mo_isName_40 ?_
        obtain ⟨r20, S20, hc20, hs⟩ := mb2_some hs
        refine jr_mV1 ok hR m_Mo_198 (c_Mo_at (jx_l X) D g S18 (S18.m_from + 1) r20 S20 hc20) rfl rfl rfl rfl (Nat.le_of_ble_eq_true rfl) ⟨Nat.le_of_ble_eq_true rfl, Nat.le_of_ble_eq_true rfl⟩ ⟨Nat.zero_le _, Nat.zero_le _⟩ d_Mo_isName_41 ?_
        refine jr_iload_n ok 2 d_Mo_isName_44 rfl rfl ?_
        refine jr_wicmp_ne 93 ok rfl rfl d_Mo_isName_45 (by decide) (fun c21 => ?_) (fun c21 => ?_)
        · replace hs := oq_neg c21 hs
          refine jr_iconst ok d_Mo_isName_93 ?_
          exact jm_zret (Lf := moL D g) ok (by decide +kernel) fin hs d_Mo_isName_94
        · replace hs := oq_pos c21 hs
          refine jr_iload ok 5 d_Mo_isName_48 rfl ?_
          refine jr_iconst ok d_Mo_isName_50 ?_
          refine jr_wicmp_lt 68 ok rfl (show w32 3 = 3 by decide) d_Mo_isName_51 (by decide) (fun c22 => ?_) (fun c22 => ?_)
          · replace hs := oq_pos c22 hs
            exact jr_lv [0, 4, 5] rfl (B_68 v4 v5 S20 hs)
          · replace hs := oq_neg c22 hs
            refine jr_aload_n ok 0 d_Mo_isName_54 rfl rfl ?_
            refine jr_aload_n ok 0 d_Mo_isName_55 rfl rfl ?_
            refine jr_get (v := .int (ii S20.m_from)) ok 0 f_Mo_195 rfl rfl d_Mo_isName_56 ?_
            refine jr_iconst ok d_Mo_isName_59 ?_
            refine jr_iadd ok d_Mo_isName_60 ?_
            obtain ⟨r23, S23, hc23, hs⟩ := mb2_some hs
            refine jr_mV1 ok hR m_Mo_198 (c_Mo_at (jx_l X) D g S20 (S20.m_from + 2) r23 S23 hc23) rfl rfl rfl rfl (Nat.le_of_ble_eq_true rfl) ⟨Nat.le_of_ble_eq_true rfl, Nat.le_of_ble_eq_true rfl⟩ ⟨Nat.zero_le _, Nat.zero_le _⟩ d_Mo_isName_61 ?_
            refine jr_iload_n ok 3 d_Mo_isName_64 rfl rfl ?_
            refine jr_wicmp_ne 93 ok rfl rfl d_Mo_isName_65 (by decide) (fun c24 => ?_) (fun c24 => ?_)
            · replace hs := oq_neg c24 hs
              refine jr_iconst ok d_Mo_isName_93 ?_
              exact jm_zret (Lf := moL D g) ok (by decide +kernel) fin hs d_Mo_isName_94
            · replace hs := oq_pos c24 hs
              exact jr_lv [0, 4, 5] rfl (B_68 v4 v5 S23 hs)

def q_Mo_negate_21 (k9 : Int → Int → MS → Option (Unit × MS)) : Nat → Int → Int → Int → MS → Option (Unit × MS)
  | 0, _, _, _, _ => none
  | n + 1, v1, v2, v3, S => if w32 S.m_windows ≤ w32 v3 then k9 v1 (v2 + 1) S else mb2 (s_Mo_cellAt S v1 v2 v3) (fun r11 S11 => mb2 (s_Mo_cellAt S11 v1 v2 v3) (fun r12 S12 => if (0 : Int) ≤ r12 ∧ r12 < (327680 : Int) then if (0 : Int) ≤ r11 ∧ r11 < (327680 : Int) then (q_Mo_negate_21 k9 n) v1 v2 (v3 + 1) (MS.w_m_cells S12 (aU S12.m_cells r11 (-(S12.m_cells r12)))) else none else none))

def q_Mo_negate_9 : Nat → Int → Int → MS → Option (Unit × MS)
  | 0, _, _, _ => none
  | n + 1, v1, v2, S => if (0 : Int) ≤ v1 ∧ v1 < (20 : Int) then if w32 (S.m_tableRows v1) ≤ w32 v2 then some ((), S) else q_Mo_negate_21 (q_Mo_negate_9 n) fU v1 v2 0 S else none

def s_Mo_negate (S : MS)  : Option (Unit × MS) := q_Mo_negate_9 fU (S.m_pile - 1) 0 S
set_option maxHeartbeats 4000000 in
set_option maxRecDepth 100000 in
theorem c_Mo_negate (l : Launch) (D : jd_T) (g : Nat → Nat) (S : MS)  (r : Unit) (S9 : MS) (hs : s_Mo_negate S  = some (r, S9)) : jc_C l D y_Mo_negate b_Mo_negate 4 none { frames := 1, cells := 0, slots := 0, locals := 23 } [.ref (g 0)] (moL D g S) (fun _ : Unit => (.returned (none), True, (moL D g S9))) := by
  refine jc_of rfl (Nat.le_of_ble_eq_true rfl) ?_
  intro X hl hR hN ok hnm fin
  subst hl
  have B_9 : ∀ (n9 : Nat), ∀ (v1 : Int) (v2 : Int) (S : MS), q_Mo_negate_9 n9 v1 v2 S = some (r, S9) → jw X 0 0 (moL D g S) [(0, .ref (g 0)), (1, .int (ii v1)), (2, .int (ii v2))] 9 [] := by
    intro n9
    induction n9 with
    | zero =>
      intro v1 v2 S hs
      rw [q_Mo_negate_9] at hs; cases hs
    | succ n9 ih9 =>
      have B_21 : ∀ (n21 : Nat), ∀ (v1 : Int) (v2 : Int) (v3 : Int) (S : MS), q_Mo_negate_21 (q_Mo_negate_9 n9) n21 v1 v2 v3 S = some (r, S9) → jw X 0 0 (moL D g S) [(0, .ref (g 0)), (1, .int (ii v1)), (2, .int (ii v2)), (3, .int (ii v3))] 21 [] := by
        intro n21
        induction n21 with
        | zero =>
          intro v1 v2 v3 S hs
          rw [q_Mo_negate_21] at hs; cases hs
        | succ n21 ih21 =>
          intro v1 v2 v3 S hs
          rw [q_Mo_negate_21] at hs
          refine jr_iload_n ok 3 d_Mo_negate_21 rfl rfl ?_
          refine jr_aload_n ok 0 d_Mo_negate_22 rfl rfl ?_
          refine jr_get (v := .int (ii S.m_windows)) ok 0 f_Mo_234 rfl rfl d_Mo_negate_23 ?_
          refine jr_wicmp_ge 60 ok rfl rfl d_Mo_negate_26 (by decide) (fun c10 => ?_) (fun c10 => ?_)
          · replace hs := oq_pos c10 hs
            refine jr_iinc [(2, .int (ii (v2 + 1))), (0, .ref (g 0)), (1, .int (ii v1)), (3, .int (ii v3))] 2 ok d_Mo_negate_60 rfl (by rw [hN]; decide) rfl ?_
            refine jr_goto 9 ok d_Mo_negate_63 (by decide) ?_
            exact jr_lv [1, 2, 0] rfl (ih9 v1 (v2 + 1) S hs)
          · replace hs := oq_neg c10 hs
            refine jr_aload_n ok 0 d_Mo_negate_29 rfl rfl ?_
            refine jr_get (v := .ref (g 15)) ok 0 f_Mo_57 rfl rfl d_Mo_negate_30 ?_
            refine jr_aload_n ok 0 d_Mo_negate_33 rfl rfl ?_
            refine jr_iload_n ok 1 d_Mo_negate_34 rfl rfl ?_
            refine jr_iload_n ok 2 d_Mo_negate_35 rfl rfl ?_
            refine jr_iload_n ok 3 d_Mo_negate_36 rfl rfl ?_
            obtain ⟨r11, S11, hc11, hs⟩ := mb2_some hs
            refine jr_mV1 ok hR m_Mo_250 (c_Mo_cellAt (jx_l X) D g S v1 v2 v3 r11 S11 hc11) rfl rfl rfl rfl (Nat.le_of_ble_eq_true rfl) ⟨Nat.le_of_ble_eq_true rfl, Nat.le_of_ble_eq_true rfl⟩ ⟨Nat.zero_le _, Nat.zero_le _⟩ d_Mo_negate_37 ?_
            refine jr_aload_n ok 0 d_Mo_negate_40 rfl rfl ?_
            refine jr_get (v := .ref (g 15)) ok 0 f_Mo_57 rfl rfl d_Mo_negate_41 ?_
            refine jr_aload_n ok 0 d_Mo_negate_44 rfl rfl ?_
            refine jr_iload_n ok 1 d_Mo_negate_45 rfl rfl ?_
            refine jr_iload_n ok 2 d_Mo_negate_46 rfl rfl ?_
            refine jr_iload_n ok 3 d_Mo_negate_47 rfl rfl ?_
            obtain ⟨r12, S12, hc12, hs⟩ := mb2_some hs
            refine jr_mV1 ok hR m_Mo_250 (c_Mo_cellAt (jx_l X) D g S11 v1 v2 v3 r12 S12 hc12) rfl rfl rfl rfl (Nat.le_of_ble_eq_true rfl) ⟨Nat.le_of_ble_eq_true rfl, Nat.le_of_ble_eq_true rfl⟩ ⟨Nat.zero_le _, Nat.zero_le _⟩ d_Mo_negate_48 ?_
            obtain ⟨hb13, hs⟩ := oq_if hs
            refine jr_lald ok 15 rfl rfl hb13.1 hb13.2 d_Mo_negate_51 ?_
            refine jr_lnegx ok d_Mo_negate_52 ?_
            obtain ⟨hb14, hs⟩ := oq_if hs
            refine jr_last (moL D g (MS.w_m_cells S12 (aU S12.m_cells r11 (-(S12.m_cells r12))))) ok 15 rfl rfl hb14.1 hb14.2  rfl d_Mo_negate_53 ?_
            refine jr_iinc [(3, .int (ii (v3 + 1))), (0, .ref (g 0)), (1, .int (ii v1)), (2, .int (ii v2))] 3 ok d_Mo_negate_54 rfl (by rw [hN]; decide) rfl ?_
            refine jr_goto 21 ok d_Mo_negate_57 (by decide) ?_
            exact jr_lv [1, 2, 3, 0] rfl (ih21 v1 v2 (v3 + 1) (MS.w_m_cells S12 (aU S12.m_cells r11 (-(S12.m_cells r12)))) hs)
      intro v1 v2 S hs
      rw [q_Mo_negate_9] at hs
      refine jr_iload_n ok 2 d_Mo_negate_9 rfl rfl ?_
      refine jr_aload_n ok 0 d_Mo_negate_10 rfl rfl ?_
      refine jr_get (v := .ref (g 13)) ok 0 f_Mo_50 rfl rfl d_Mo_negate_11 ?_
      refine jr_iload_n ok 1 d_Mo_negate_14 rfl rfl ?_
      obtain ⟨hb8, hs⟩ := oq_if hs
      refine jr_iald ok 13 rfl rfl hb8.1 hb8.2 d_Mo_negate_15 ?_
      refine jr_wicmp_ge 66 ok rfl rfl d_Mo_negate_16 (by decide) (fun c9 => ?_) (fun c9 => ?_)
      · replace hs := oq_pos c9 hs
        exact jm_vret (Lf := moL D g) ok fin hs d_Mo_negate_66
      · replace hs := oq_neg c9 hs
        refine jr_iconst ok d_Mo_negate_19 ?_
        refine jr_istore_n [(3, .int (ii 0)), (0, .ref (g 0)), (1, .int (ii v1)), (2, .int (ii v2))] ok d_Mo_negate_20 rfl (by rw [hN]; decide) rfl ?_
        exact jr_lv [1, 2, 3, 0] rfl (B_21 fU v1 v2 0 S hs)
  show jw X 0 0 (moL D g S) [(0, .ref (g 0))] 0 []
  rw [s_Mo_negate] at hs
  refine jr_aload_n ok 0 d_Mo_negate_0 rfl rfl ?_
  refine jr_get (v := .int (ii S.m_pile)) ok 0 f_Mo_253 rfl rfl d_Mo_negate_1 ?_
  refine jr_iconst ok d_Mo_negate_4 ?_
  refine jr_isub ok d_Mo_negate_5 ?_
  refine jr_istore_n [(1, .int (ii (S.m_pile - 1))), (0, .ref (g 0))] ok d_Mo_negate_6 rfl (by rw [hN]; decide) rfl ?_
  refine jr_iconst ok d_Mo_negate_7 ?_
  refine jr_istore_n [(2, .int (ii 0)), (1, .int (ii (S.m_pile - 1))), (0, .ref (g 0))] ok d_Mo_negate_8 rfl (by rw [hN]; decide) rfl ?_
  exact jr_lv [2, 1, 0] rfl (B_9 fU (S.m_pile - 1) 0 S hs)

def q_Mo_letter_42  (S : MS) : Option (Int × MS) := some (-1, S)

def q_Mo_letter_14 (v1 : Int) (v2 : Int) (t0 : Int) (S : MS) : Option (Int × MS) := if w32 t0 ≤ 0 then if w32 v2 < 0 then q_Mo_letter_42 (MS.w_m_code S t0) else if (0 : Int) ≤ v1 ∧ v1 < (256 : Int) then if w32 v2 < w32 (S.m_textLengths v1) then if (0 : Int) ≤ ((304 * v1) + v2) ∧ ((304 * v1) + v2) < (78128 : Int) then some (S.m_texts ((304 * v1) + v2), MS.w_m_code S t0) else none else q_Mo_letter_42 (MS.w_m_code S t0) else none else some (0, MS.w_m_code S t0)

def s_Mo_letter (S : MS) (v1 : Int) (v2 : Int) : Option (Int × MS) := mb2 (s_Mo_isSeries S v1) (fun r13 S13 => if w32 r13 = 0 then q_Mo_letter_14 v1 v2 1 S13 else q_Mo_letter_14 v1 v2 0 S13)
set_option maxHeartbeats 4000000 in
set_option maxRecDepth 100000 in
theorem c_Mo_letter (l : Launch) (D : jd_T) (g : Nat → Nat) (S : MS) (v1 : Int) (v2 : Int) (r : Int) (S9 : MS) (hs : s_Mo_letter S v1 v2 = some (r, S9)) : jc_C l D y_Mo_letter b_Mo_letter 3 (some .int) { frames := 1, cells := 0, slots := 0, locals := 21 } [.ref (g 0), .int (ii v1), .int (ii v2)] (moL D g S) (fun _ : Unit => (.returned (some (.int (ii r))), True, (moL D g S9))) := by
  refine jc_of rfl (Nat.le_of_ble_eq_true rfl) ?_
  intro X hl hR hN ok hnm fin
  subst hl
  have B_42 : ∀ (S : MS), q_Mo_letter_42 S = some (r, S9) → jw X 0 0 (moL D g S) [] 42 [] := by
    intro S hs
    rw [q_Mo_letter_42] at hs
    refine jr_iconst ok d_Mo_letter_42 ?_
    refine jr_goto 58 ok d_Mo_letter_43 (by decide) ?_
    exact jm_iret (Lf := moL D g) ok fin hs d_Mo_letter_58
  have B_14 : ∀ (v1 : Int) (v2 : Int) (t0 : Int) (S : MS), q_Mo_letter_14 v1 v2 t0 S = some (r, S9) → jw X 0 0 (moL D g S) [(0, .ref (g 0)), (1, .int (ii v1)), (2, .int (ii v2))] 14 [.int (ii t0), .ref (g 0)] := by
    intro v1 v2 t0 S hs
    rw [q_Mo_letter_14] at hs
    refine jr_put (moL D g (MS.w_m_code S t0)) ok 0 f_Mo_101 rfl rfl rfl (Nat.le_of_ble_eq_true rfl) rfl d_Mo_letter_14 ?_
    refine jr_aload_n ok 0 d_Mo_letter_17 rfl rfl ?_
    refine jr_get (v := .int (ii t0)) ok 0 f_Mo_101 rfl rfl d_Mo_letter_18 ?_
    refine jr_wif_le 28 ok rfl d_Mo_letter_21 (by decide) (fun c8 => ?_) (fun c8 => ?_)
    · replace hs := oq_pos c8 hs
      refine jr_iload_n ok 2 d_Mo_letter_28 rfl rfl ?_
      refine jr_wif_lt 42 ok rfl d_Mo_letter_29 (by decide) (fun c9 => ?_) (fun c9 => ?_)
      · replace hs := oq_pos c9 hs
        exact jr_lv [] rfl (B_42 (MS.w_m_code S t0) hs)
      · replace hs := oq_neg c9 hs
        refine jr_iload_n ok 2 d_Mo_letter_32 rfl rfl ?_
        refine jr_aload_n ok 0 d_Mo_letter_33 rfl rfl ?_
        refine jr_get (v := .ref (g 3)) ok 0 f_Mo_18 rfl rfl d_Mo_letter_34 ?_
        refine jr_iload_n ok 1 d_Mo_letter_37 rfl rfl ?_
        obtain ⟨hb10, hs⟩ := oq_if hs
        refine jr_iald ok 3 rfl rfl hb10.1 hb10.2 d_Mo_letter_38 ?_
        show jw X 0 0 (moL D g (MS.w_m_code S t0)) [(0, .ref (g 0)), (1, .int (ii v1)), (2, .int (ii v2))] 39 [.int (ii (S.m_textLengths v1)), .int (ii v2)]
        refine jr_wicmp_lt 46 ok rfl rfl d_Mo_letter_39 (by decide) (fun c11 => ?_) (fun c11 => ?_)
        · replace hs := oq_pos c11 hs
          refine jr_aload_n ok 0 d_Mo_letter_46 rfl rfl ?_
          refine jr_get (v := .ref (g 2)) ok 0 f_Mo_15 rfl rfl d_Mo_letter_47 ?_
          refine jr_sipush ok d_Mo_letter_50 (by decide +kernel) ?_
          refine jr_iload_n ok 1 d_Mo_letter_53 rfl rfl ?_
          refine jr_imul ok d_Mo_letter_54 ?_
          refine jr_iload_n ok 2 d_Mo_letter_55 rfl rfl ?_
          refine jr_iadd ok d_Mo_letter_56 ?_
          obtain ⟨hb12, hs⟩ := oq_if hs
          refine jr_bald ok 2 rfl rfl hb12.1 hb12.2 d_Mo_letter_57 ?_
          show jw X 0 0 (moL D g (MS.w_m_code S t0)) [(0, .ref (g 0)), (1, .int (ii v1)), (2, .int (ii v2))] 58 [.int (ii (S.m_texts ((304 * v1) + v2)))]
          exact jm_iret (Lf := moL D g) ok fin hs d_Mo_letter_58
        · replace hs := oq_neg c11 hs
          exact jr_lv [] rfl (B_42 (MS.w_m_code S t0) hs)
    · replace hs := oq_neg c8 hs
      refine jr_iconst ok d_Mo_letter_24 ?_
      refine jr_goto 58 ok d_Mo_letter_25 (by decide) ?_
      exact jm_iret (Lf := moL D g) ok fin hs d_Mo_letter_58
  show jw X 0 0 (moL D g S) [(0, .ref (g 0)), (1, .int (ii v1)), (2, .int (ii v2))] 0 []
  rw [s_Mo_letter] at hs
  refine jr_aload_n ok 0 d_Mo_letter_0 rfl rfl ?_
  refine jr_aload_n ok 0 d_Mo_letter_1 rfl rfl ?_
  refine jr_iload_n ok 1 d_Mo_letter_2 rfl rfl ?_
  obtain ⟨r13, S13, hc13, hs⟩ := mb2_some hs
  refine jr_mV1 ok hR m_Mo_149 (c_Mo_isSeries (jx_l X) D g S v1 r13 S13 hc13) rfl rfl rfl rfl (Nat.le_of_ble_eq_true rfl) ⟨Nat.le_of_ble_eq_true rfl, Nat.le_of_ble_eq_true rfl⟩ ⟨Nat.zero_le _, Nat.zero_le _⟩ d_Mo_letter_3 ?_
  refine jr_wif_eq 13 ok rfl d_Mo_letter_6 (by decide) (fun c14 => ?_) (fun c14 => ?_)
  · replace hs := oq_pos c14 hs
    refine jr_iconst ok d_Mo_letter_13 ?_
    exact jr_lv [0, 1, 2] rfl (B_14 v1 v2 1 S13 hs)
  · replace hs := oq_neg c14 hs
    refine jr_iconst ok d_Mo_letter_9 ?_
    refine jr_goto 14 ok d_Mo_letter_10 (by decide) ?_
    exact jr_lv [0, 1, 2] rfl (B_14 v1 v2 0 S13 hs)

def q_Mo_go_111 (k3 : Int → Int64 → Int64 → Int → MS → Option (Unit × MS)) (v1 : Int) (v2 : Int64) (v4 : Int64) (v6 : Int) (t0 : Int) (t1 : Int) (S : MS) : Option (Unit × MS) := if (0 : Int) ≤ t1 ∧ t1 < (8192 : Int) then if -128 ≤ t0 ∧ t0 ≤ 127 then k3 v1 v2 v4 (v6 + 1) (MS.w_m_places S (aU S.m_places t1 t0)) else none else none

def q_Mo_go_85 (k3 : Int → Int64 → Int64 → Int → MS → Option (Unit × MS)) (v1 : Int) (v2 : Int64) (v4 : Int64) (v6 : Int) (v7 : Int) (t0 : Int) (t1 : Int) (S : MS) : Option (Unit × MS) := if w32 v7 = 0 then if (0 : Int) ≤ v6 ∧ v6 < (8192 : Int) then q_Mo_go_111 k3 v1 v2 v4 v6 (S.m_places v6) v6 (MS.w_m_head S (t1 - t0)) else none else q_Mo_go_111 k3 v1 v2 v4 v6 2 v6 (MS.w_m_head S (t1 - t0))

def q_Mo_go_84 (k3 : Int → Int64 → Int64 → Int → MS → Option (Unit × MS)) (v1 : Int) (v2 : Int64) (v4 : Int64) (v6 : Int) (v7 : Int) (t0 : Int) (S : MS) : Option (Unit × MS) := q_Mo_go_85 k3 v1 v2 v4 v6 v7 0 t0 S

def q_Mo_go_58 (k3 : Int → Int64 → Int64 → Int → MS → Option (Unit × MS)) (v1 : Int) (v2 : Int64) (v4 : Int64) (v6 : Int) (t0 : Int) (S : MS) : Option (Unit × MS) := if w32 t0 = 0 then q_Mo_go_84 k3 v1 v2 v4 v6 t0 S.m_head S else if (0 : Int) ≤ v6 ∧ v6 < (8192 : Int) then if w32 (S.m_places v6) = 0 then q_Mo_go_85 k3 v1 v2 v4 v6 t0 1 S.m_head S else q_Mo_go_84 k3 v1 v2 v4 v6 t0 S.m_head S else none

def q_Mo_go_57 (k3 : Int → Int64 → Int64 → Int → MS → Option (Unit × MS)) (v1 : Int) (v2 : Int64) (v4 : Int64) (v6 : Int) (S : MS) : Option (Unit × MS) := q_Mo_go_58 k3 v1 v2 v4 v6 0 S

def q_Mo_go_28 (k3 : Int → Int64 → Int64 → Int → MS → Option (Unit × MS)) (v1 : Int) (v2 : Int64) (v4 : Int64) (v6 : Int) (S : MS) : Option (Unit × MS) := if (0 : Int) ≤ v6 ∧ v6 < (8192 : Int) then if (S.m_pointTimes v6).toInt < v2.toInt then q_Mo_go_57 k3 v1 v2 v4 v6 S else if (0 : Int) ≤ v6 ∧ v6 < (8192 : Int) then if v4.toInt < (S.m_pointTimes v6).toInt then q_Mo_go_57 k3 v1 v2 v4 v6 S else q_Mo_go_58 k3 v1 v2 v4 v6 1 S else none else none

def q_Mo_go_3 : Nat → Int → Int64 → Int64 → Int → MS → Option (Unit × MS)
  | 0, _, _, _, _, _ => none
  | n + 1, v1, v2, v4, v6, S => if w32 S.m_points ≤ w32 v6 then mb2 (s_Mo_tidy S ) (fun r18 S18 => some ((), S18)) else if w32 v1 = (-1) then q_Mo_go_28 (q_Mo_go_3 n) v1 v2 v4 v6 S else if (0 : Int) ≤ v6 ∧ v6 < (8192 : Int) then if w32 (S.m_pointSeries v6) = w32 v1 then q_Mo_go_28 (q_Mo_go_3 n) v1 v2 v4 v6 S else q_Mo_go_57 (q_Mo_go_3 n) v1 v2 v4 v6 S else none

def s_Mo_go (S : MS) (v1 : Int) (v2 : Int64) (v4 : Int64) : Option (Unit × MS) := q_Mo_go_3 fU v1 v2 v4 0 S
set_option maxHeartbeats 4000000 in
set_option maxRecDepth 100000 in
theorem c_Mo_go (l : Launch) (D : jd_T) (g : Nat → Nat) (S : MS) (v1 : Int) (v2 : Int64) (v4 : Int64) (r : Unit) (S9 : MS) (hs : s_Mo_go S v1 v2 v4 = some (r, S9)) : jc_C l D y_Mo_go b_Mo_go 8 none { frames := 1, cells := 0, slots := 0, locals := 22 } [.ref (g 0), .int (ii v1), .long v2, .long v4] (moL D g S) (fun _ : Unit => (.returned (none), True, (moL D g S9))) := by
  refine jc_of rfl (Nat.le_of_ble_eq_true rfl) ?_
  intro X hl hR hN ok hnm fin
  subst hl
  have B_3 : ∀ (n3 : Nat), ∀ (v1 : Int) (v2 : Int64) (v4 : Int64) (v6 : Int) (S : MS), q_Mo_go_3 n3 v1 v2 v4 v6 S = some (r, S9) → jw X 0 0 (moL D g S) [(0, .ref (g 0)), (1, .int (ii v1)), (2, .long v2), (4, .long v4), (6, .int (ii v6))] 3 [] := by
    intro n3
    induction n3 with
    | zero =>
      intro v1 v2 v4 v6 S hs
      rw [q_Mo_go_3] at hs; cases hs
    | succ n3 ih3 =>
      have B_111 : ∀ (v1 : Int) (v2 : Int64) (v4 : Int64) (v6 : Int) (t0 : Int) (t1 : Int) (S : MS), q_Mo_go_111 (q_Mo_go_3 n3) v1 v2 v4 v6 t0 t1 S = some (r, S9) → jw X 0 0 (moL D g S) [(0, .ref (g 0)), (1, .int (ii v1)), (2, .long v2), (4, .long v4), (6, .int (ii v6))] 111 [.int (ii t0), .int (ii t1), .ref (g 8)] := by
        intro v1 v2 v4 v6 t0 t1 S hs
        rw [q_Mo_go_111] at hs
        obtain ⟨hb31, hs⟩ := oq_if hs
        obtain ⟨hb32, hs⟩ := oq_if hs
        refine jr_bast (moL D g (MS.w_m_places S (aU S.m_places t1 t0))) ok 8 rfl rfl hb31.1 hb31.2 (nar_b hb32) rfl d_Mo_go_111 ?_
        refine jr_iinc [(6, .int (ii (v6 + 1))), (0, .ref (g 0)), (1, .int (ii v1)), (2, .long v2), (4, .long v4)] 4 ok d_Mo_go_112 rfl (by rw [hN]; decide) rfl ?_
        refine jr_goto 3 ok d_Mo_go_115 (by decide) ?_
        exact jr_lv [1, 2, 3, 4, 0] rfl (ih3 v1 v2 v4 (v6 + 1) (MS.w_m_places S (aU S.m_places t1 t0)) hs)
      have B_85 : ∀ (v1 : Int) (v2 : Int64) (v4 : Int64) (v6 : Int) (v7 : Int) (t0 : Int) (t1 : Int) (S : MS), q_Mo_go_85 (q_Mo_go_3 n3) v1 v2 v4 v6 v7 t0 t1 S = some (r, S9) → jw X 0 0 (moL D g S) [(0, .ref (g 0)), (1, .int (ii v1)), (2, .long v2), (4, .long v4), (6, .int (ii v6)), (7, .int (ii v7))] 85 [.int (ii t0), .int (ii t1), .ref (g 0)] := by
        intro v1 v2 v4 v6 v7 t0 t1 S hs
        rw [q_Mo_go_85] at hs
        refine jr_isub ok d_Mo_go_85 ?_
        refine jr_put (moL D g (MS.w_m_head S (t1 - t0))) ok 0 f_Mo_161 rfl rfl rfl (Nat.le_of_ble_eq_true rfl) rfl d_Mo_go_86 ?_
        refine jr_aload_n ok 0 d_Mo_go_89 rfl rfl ?_
        refine jr_get (v := .ref (g 8)) ok 0 f_Mo_35 rfl rfl d_Mo_go_90 ?_
        refine jr_iload ok 4 d_Mo_go_93 rfl ?_
        refine jr_iload ok 5 d_Mo_go_95 rfl ?_
        refine jr_wif_eq 104 ok rfl d_Mo_go_97 (by decide) (fun c29 => ?_) (fun c29 => ?_)
        · replace hs := oq_pos c29 hs
          refine jr_aload_n ok 0 d_Mo_go_104 rfl rfl ?_
          refine jr_get (v := .ref (g 8)) ok 0 f_Mo_35 rfl rfl d_Mo_go_105 ?_
          refine jr_iload ok 4 d_Mo_go_108 rfl ?_
          obtain ⟨hb30, hs⟩ := oq_if hs
          refine jr_bald ok 8 rfl rfl hb30.1 hb30.2 d_Mo_go_110 ?_
          show jw X 0 0 (moL D g (MS.w_m_head S (t1 - t0))) [(0, .ref (g 0)), (1, .int (ii v1)), (2, .long v2), (4, .long v4), (6, .int (ii v6)), (7, .int (ii v7))] 111 [.int (ii (S.m_places v6)), .int (ii v6), .ref (g 8)]
          exact jr_lv [0, 1, 2, 3, 4] rfl (B_111 v1 v2 v4 v6 (S.m_places v6) v6 (MS.w_m_head S (t1 - t0)) hs)
        · replace hs := oq_neg c29 hs
          refine jr_iconst ok d_Mo_go_100 ?_
          refine jr_goto 111 ok d_Mo_go_101 (by decide) ?_
          exact jr_lv [0, 1, 2, 3, 4] rfl (B_111 v1 v2 v4 v6 2 v6 (MS.w_m_head S (t1 - t0)) hs)
      have B_84 : ∀ (v1 : Int) (v2 : Int64) (v4 : Int64) (v6 : Int) (v7 : Int) (t0 : Int) (S : MS), q_Mo_go_84 (q_Mo_go_3 n3) v1 v2 v4 v6 v7 t0 S = some (r, S9) → jw X 0 0 (moL D g S) [(0, .ref (g 0)), (1, .int (ii v1)), (2, .long v2), (4, .long v4), (6, .int (ii v6)), (7, .int (ii v7))] 84 [.int (ii t0), .ref (g 0)] := by
        intro v1 v2 v4 v6 v7 t0 S hs
        rw [q_Mo_go_84] at hs
        refine jr_iconst ok d_Mo_go_84 ?_
        exact jr_lv [0, 1, 2, 3, 4, 5] rfl (B_85 v1 v2 v4 v6 v7 0 t0 S hs)
      have B_58 : ∀ (v1 : Int) (v2 : Int64) (v4 : Int64) (v6 : Int) (t0 : Int) (S : MS), q_Mo_go_58 (q_Mo_go_3 n3) v1 v2 v4 v6 t0 S = some (r, S9) → jw X 0 0 (moL D g S) [(0, .ref (g 0)), (1, .int (ii v1)), (2, .long v2), (4, .long v4), (6, .int (ii v6))] 58 [.int (ii t0)] := by
        intro v1 v2 v4 v6 t0 S hs
        rw [q_Mo_go_58] at hs
        refine jr_istore [(7, .int (ii t0)), (0, .ref (g 0)), (1, .int (ii v1)), (2, .long v2), (4, .long v4), (6, .int (ii v6))] ok d_Mo_go_58 (by rw [hN]; decide) rfl ?_
        refine jr_aload_n ok 1 d_Mo_go_60 rfl rfl ?_
        refine jr_dup rfl ok d_Mo_go_61 ?_
        refine jr_get (v := .int (ii S.m_head)) ok 0 f_Mo_161 rfl rfl d_Mo_go_62 ?_
        refine jr_iload ok 0 d_Mo_go_65 rfl ?_
        refine jr_wif_eq 84 ok rfl d_Mo_go_67 (by decide) (fun c26 => ?_) (fun c26 => ?_)
        · replace hs := oq_pos c26 hs
          exact jr_lv [1, 2, 3, 4, 5, 0] rfl (B_84 v1 v2 v4 v6 t0 S.m_head S hs)
        · replace hs := oq_neg c26 hs
          refine jr_aload_n ok 1 d_Mo_go_70 rfl rfl ?_
          refine jr_get (v := .ref (g 8)) ok 0 f_Mo_35 rfl rfl d_Mo_go_71 ?_
          refine jr_iload ok 5 d_Mo_go_74 rfl ?_
          obtain ⟨hb27, hs⟩ := oq_if hs
          refine jr_bald ok 8 rfl rfl hb27.1 hb27.2 d_Mo_go_76 ?_
          refine jr_wif_ne 84 ok rfl d_Mo_go_77 (by decide) (fun c28 => ?_) (fun c28 => ?_)
          · replace hs := oq_neg c28 hs
            exact jr_lv [1, 2, 3, 4, 5, 0] rfl (B_84 v1 v2 v4 v6 t0 S.m_head S hs)
          · replace hs := oq_pos c28 hs
            refine jr_iconst ok d_Mo_go_80 ?_
            refine jr_goto 85 ok d_Mo_go_81 (by decide) ?_
            exact jr_lv [1, 2, 3, 4, 5, 0] rfl (B_85 v1 v2 v4 v6 t0 1 S.m_head S hs)
      have B_57 : ∀ (v1 : Int) (v2 : Int64) (v4 : Int64) (v6 : Int) (S : MS), q_Mo_go_57 (q_Mo_go_3 n3) v1 v2 v4 v6 S = some (r, S9) → jw X 0 0 (moL D g S) [(0, .ref (g 0)), (1, .int (ii v1)), (2, .long v2), (4, .long v4), (6, .int (ii v6))] 57 [] := by
        intro v1 v2 v4 v6 S hs
        rw [q_Mo_go_57] at hs
        refine jr_iconst ok d_Mo_go_57 ?_
        exact jr_lv [0, 1, 2, 3, 4] rfl (B_58 v1 v2 v4 v6 0 S hs)
      have B_28 : ∀ (v1 : Int) (v2 : Int64) (v4 : Int64) (v6 : Int) (S : MS), q_Mo_go_28 (q_Mo_go_3 n3) v1 v2 v4 v6 S = some (r, S9) → jw X 0 0 (moL D g S) [(0, .ref (g 0)), (1, .int (ii v1)), (2, .long v2), (4, .long v4), (6, .int (ii v6))] 28 [] := by
        intro v1 v2 v4 v6 S hs
        rw [q_Mo_go_28] at hs
        refine jr_aload_n ok 0 d_Mo_go_28 rfl rfl ?_
        refine jr_get (v := .ref (g 6)) ok 0 f_Mo_29 rfl rfl d_Mo_go_29 ?_
        refine jr_iload ok 4 d_Mo_go_32 rfl ?_
        obtain ⟨hb22, hs⟩ := oq_if hs
        refine jr_lald ok 6 rfl rfl hb22.1 hb22.2 d_Mo_go_34 ?_
        refine jr_lload_n ok 2 d_Mo_go_35 rfl rfl ?_
        refine jr_lif_lt 57 ok rfl rfl d_Mo_go_36 d_Mo_go_37 (by decide) (fun c23 => ?_) (fun c23 => ?_)
        · replace hs := oq_pos c23 hs
          exact jr_lv [0, 1, 2, 3, 4] rfl (B_57 v1 v2 v4 v6 S hs)
        · replace hs := oq_neg c23 hs
          refine jr_aload_n ok 0 d_Mo_go_40 rfl rfl ?_
          refine jr_get (v := .ref (g 6)) ok 0 f_Mo_29 rfl rfl d_Mo_go_41 ?_
          refine jr_iload ok 4 d_Mo_go_44 rfl ?_
          obtain ⟨hb24, hs⟩ := oq_if hs
          refine jr_lald ok 6 rfl rfl hb24.1 hb24.2 d_Mo_go_46 ?_
          refine jr_lload ok 3 d_Mo_go_47 rfl ?_
          refine jr_lif_gt 57 ok rfl rfl d_Mo_go_49 d_Mo_go_50 (by decide) (fun c25 => ?_) (fun c25 => ?_)
          · replace hs := oq_pos c25 hs
            exact jr_lv [0, 1, 2, 3, 4] rfl (B_57 v1 v2 v4 v6 S hs)
          · replace hs := oq_neg c25 hs
            refine jr_iconst ok d_Mo_go_53 ?_
            refine jr_goto 58 ok d_Mo_go_54 (by decide) ?_
            exact jr_lv [0, 1, 2, 3, 4] rfl (B_58 v1 v2 v4 v6 1 S hs)
      intro v1 v2 v4 v6 S hs
      rw [q_Mo_go_3] at hs
      refine jr_iload ok 4 d_Mo_go_3 rfl ?_
      refine jr_aload_n ok 0 d_Mo_go_5 rfl rfl ?_
      refine jr_get (v := .int (ii S.m_points)) ok 0 f_Mo_152 rfl rfl d_Mo_go_6 ?_
      refine jr_wicmp_ge 118 ok rfl rfl d_Mo_go_9 (by decide) (fun c17 => ?_) (fun c17 => ?_)
      · replace hs := oq_pos c17 hs
        refine jr_aload_n ok 0 d_Mo_go_118 rfl rfl ?_
        obtain ⟨r18, S18, hc18, hs⟩ := mb2_some hs
        refine jr_mV0 ok hR m_Mo_176 (c_Mo_tidy (jx_l X) D g S  r18 S18 hc18) rfl rfl rfl rfl (Nat.le_of_ble_eq_true rfl) ⟨Nat.le_of_ble_eq_true rfl, Nat.le_of_ble_eq_true rfl⟩ ⟨Nat.zero_le _, Nat.zero_le _⟩ d_Mo_go_119 ?_
        exact jm_vret (Lf := moL D g) ok fin hs d_Mo_go_122
      · replace hs := oq_neg c17 hs
        refine jr_iload_n ok 1 d_Mo_go_12 rfl rfl ?_
        refine jr_iconst ok d_Mo_go_13 ?_
        refine jr_wicmp_eq 28 ok rfl (show w32 (-1) = (-1) by decide) d_Mo_go_14 (by decide) (fun c19 => ?_) (fun c19 => ?_)
        · replace hs := oq_pos c19 hs
          exact jr_lv [0, 1, 2, 3, 4] rfl (B_28 v1 v2 v4 v6 S hs)
        · replace hs := oq_neg c19 hs
          refine jr_aload_n ok 0 d_Mo_go_17 rfl rfl ?_
          refine jr_get (v := .ref (g 5)) ok 0 f_Mo_26 rfl rfl d_Mo_go_18 ?_
          refine jr_iload ok 4 d_Mo_go_21 rfl ?_
          obtain ⟨hb20, hs⟩ := oq_if hs
          refine jr_iald ok 5 rfl rfl hb20.1 hb20.2 d_Mo_go_23 ?_
          refine jr_iload_n ok 1 d_Mo_go_24 rfl rfl ?_
          refine jr_wicmp_ne 57 ok rfl rfl d_Mo_go_25 (by decide) (fun c21 => ?_) (fun c21 => ?_)
          · replace hs := oq_neg c21 hs
            exact jr_lv [0, 1, 2, 3, 4] rfl (B_57 v1 v2 v4 v6 S hs)
          · replace hs := oq_pos c21 hs
            exact jr_lv [0, 1, 2, 3, 4] rfl (B_28 v1 v2 v4 v6 S hs)
  show jw X 0 0 (moL D g S) [(0, .ref (g 0)), (1, .int (ii v1)), (2, .long v2), (4, .long v4)] 0 []
  rw [s_Mo_go] at hs
  refine jr_iconst ok d_Mo_go_0 ?_
  refine jr_istore [(6, .int (ii 0)), (0, .ref (g 0)), (1, .int (ii v1)), (2, .long v2), (4, .long v4)] ok d_Mo_go_1 (by rw [hN]; decide) rfl ?_
  exact jr_lv [1, 2, 3, 4, 0] rfl (B_3 fU v1 v2 v4 0 S hs)

def q_Mo_sweep_168 (k4 : Int → Int → Int → MS → Option (Unit × MS)) (v1 : Int) (v2 : Int) (v3 : Int) (S : MS) : Option (Unit × MS) := k4 v1 v2 (v3 + 1) S

def q_Mo_sweep_74 (k4 : Int → Int → Int → MS → Option (Unit × MS)) : Nat → Int → Int → Int → Int → MS → Option (Unit × MS)
  | 0, _, _, _, _, _ => none
  | n + 1, v1, v2, v3, v5, S => if w32 S.m_windows ≤ w32 v5 then if (0 : Int) ≤ ((256 * v1) + v3) ∧ ((256 * v1) + v3) < (5120 : Int) then if (0 : Int) ≤ ((256 * v1) + v2) ∧ ((256 * v1) + v2) < (5120 : Int) then q_Mo_sweep_168 k4 v1 (v2 + 1) v3 (MS.w_m_rowSeries S (aU S.m_rowSeries ((256 * v1) + v2) (S.m_rowSeries ((256 * v1) + v3)))) else none else none else mb2 (s_Mo_cellAt S v1 v2 v5) (fun r38 S38 => mb2 (s_Mo_cellAt S38 v1 v3 v5) (fun r39 S39 => if (0 : Int) ≤ r39 ∧ r39 < (327680 : Int) then if (0 : Int) ≤ r38 ∧ r38 < (327680 : Int) then if (S39.m_isCell r39) = 0 ∨ (S39.m_isCell r39) = 1 then mb2 (s_Mo_cellAt (MS.w_m_isCell S39 (aU S39.m_isCell r38 (S39.m_isCell r39))) v1 v2 v5) (fun r43 S43 => mb2 (s_Mo_cellAt S43 v1 v3 v5) (fun r44 S44 => if (0 : Int) ≤ r44 ∧ r44 < (327680 : Int) then if (0 : Int) ≤ r43 ∧ r43 < (327680 : Int) then (q_Mo_sweep_74 k4 n) v1 v2 v3 (v5 + 1) (MS.w_m_cells S44 (aU S44.m_cells r43 (S44.m_cells r44))) else none else none)) else none else none else none))

def q_Mo_sweep_55 (k4 : Int → Int → Int → MS → Option (Unit × MS)) (k20 : Int → Int → Int → Int → Int → MS → Option (Unit × MS)) (v1 : Int) (v2 : Int) (v3 : Int) (v5 : Int) (t0 : Int) (S : MS) : Option (Unit × MS) := k20 v1 v2 v3 t0 (v5 + 1) S

def q_Mo_sweep_50 (k4 : Int → Int → Int → MS → Option (Unit × MS)) (k20 : Int → Int → Int → Int → Int → MS → Option (Unit × MS)) (v1 : Int) (v2 : Int) (v3 : Int) (v5 : Int) (S : MS) : Option (Unit × MS) := q_Mo_sweep_55 k4 k20 v1 v2 v3 v5 1 S

def q_Mo_sweep_20 (k4 : Int → Int → Int → MS → Option (Unit × MS)) : Nat → Int → Int → Int → Int → Int → MS → Option (Unit × MS)
  | 0, _, _, _, _, _, _ => none
  | n + 1, v1, v2, v3, v4, v5, S => if w32 S.m_windows ≤ w32 v5 then if w32 v4 = 0 then q_Mo_sweep_168 k4 v1 v2 v3 S else q_Mo_sweep_74 k4 fU v1 v2 v3 0 S else if w32 v4 = 0 then mb2 (s_Mo_cellAt S v1 v3 v5) (fun r32 S32 => if (0 : Int) ≤ r32 ∧ r32 < (327680 : Int) then if w32 (S32.m_isCell r32) = 0 then q_Mo_sweep_55 k4 (q_Mo_sweep_20 k4 n) v1 v2 v3 v5 0 S32 else q_Mo_sweep_50 k4 (q_Mo_sweep_20 k4 n) v1 v2 v3 v5 S32 else none) else q_Mo_sweep_50 k4 (q_Mo_sweep_20 k4 n) v1 v2 v3 v5 S

def q_Mo_sweep_4 : Nat → Int → Int → Int → MS → Option (Unit × MS)
  | 0, _, _, _, _ => none
  | n + 1, v1, v2, v3, S => if (0 : Int) ≤ v1 ∧ v1 < (20 : Int) then if w32 (S.m_tableRows v1) ≤ w32 v3 then if (0 : Int) ≤ v1 ∧ v1 < (20 : Int) then if (0 : Int) ≤ v1 ∧ v1 < (21 : Int) then if (0 : Int) ≤ (v1 + 1) ∧ (v1 + 1) < (21 : Int) then some ((), MS.w_m_starts (MS.w_m_tableRows S (aU S.m_tableRows v1 v2)) (aU S.m_starts (v1 + 1) ((S.m_starts v1) + (v2 * S.m_windows)))) else none else none else none else q_Mo_sweep_20 (q_Mo_sweep_4 n) fU v1 v2 v3 0 0 S else none

def s_Mo_sweep (S : MS) (v1 : Int) : Option (Unit × MS) := q_Mo_sweep_4 fU v1 0 0 S
set_option maxHeartbeats 4000000 in
set_option maxRecDepth 100000 in
theorem c_Mo_sweep (l : Launch) (D : jd_T) (g : Nat → Nat) (S : MS) (v1 : Int) (r : Unit) (S9 : MS) (hs : s_Mo_sweep S v1 = some (r, S9)) : jc_C l D y_Mo_sweep b_Mo_sweep 6 none { frames := 1, cells := 0, slots := 0, locals := 23 } [.ref (g 0), .int (ii v1)] (moL D g S) (fun _ : Unit => (.returned (none), True, (moL D g S9))) := by
  refine jc_of rfl (Nat.le_of_ble_eq_true rfl) ?_
  intro X hl hR hN ok hnm fin
  subst hl
  have B_4 : ∀ (n4 : Nat), ∀ (v1 : Int) (v2 : Int) (v3 : Int) (S : MS), q_Mo_sweep_4 n4 v1 v2 v3 S = some (r, S9) → jw X 0 0 (moL D g S) [(0, .ref (g 0)), (1, .int (ii v1)), (2, .int (ii v2)), (3, .int (ii v3))] 4 [] := by
    intro n4
    induction n4 with
    | zero =>
      intro v1 v2 v3 S hs
      rw [q_Mo_sweep_4] at hs; cases hs
    | succ n4 ih4 =>
      have B_168 : ∀ (v1 : Int) (v2 : Int) (v3 : Int) (S : MS), q_Mo_sweep_168 (q_Mo_sweep_4 n4) v1 v2 v3 S = some (r, S9) → jw X 0 0 (moL D g S) [(0, .ref (g 0)), (1, .int (ii v1)), (2, .int (ii v2)), (3, .int (ii v3))] 168 [] := by
        intro v1 v2 v3 S hs
        rw [q_Mo_sweep_168] at hs
        refine jr_iinc [(3, .int (ii (v3 + 1))), (0, .ref (g 0)), (1, .int (ii v1)), (2, .int (ii v2))] 3 ok d_Mo_sweep_168 rfl (by rw [hN]; decide) rfl ?_
        refine jr_goto 4 ok d_Mo_sweep_171 (by decide) ?_
        exact jr_lv [1, 2, 3, 0] rfl (ih4 v1 v2 (v3 + 1) S hs)
      have B_74 : ∀ (n74 : Nat), ∀ (v1 : Int) (v2 : Int) (v3 : Int) (v5 : Int) (S : MS), q_Mo_sweep_74 (q_Mo_sweep_4 n4) n74 v1 v2 v3 v5 S = some (r, S9) → jw X 0 0 (moL D g S) [(0, .ref (g 0)), (1, .int (ii v1)), (2, .int (ii v2)), (3, .int (ii v3)), (5, .int (ii v5))] 74 [] := by
        intro n74
        induction n74 with
        | zero =>
          intro v1 v2 v3 v5 S hs
          rw [q_Mo_sweep_74] at hs; cases hs
        | succ n74 ih74 =>
          intro v1 v2 v3 v5 S hs
          rw [q_Mo_sweep_74] at hs
          refine jr_iload ok 4 d_Mo_sweep_74 rfl ?_
          refine jr_aload_n ok 0 d_Mo_sweep_76 rfl rfl ?_
          refine jr_get (v := .int (ii S.m_windows)) ok 0 f_Mo_234 rfl rfl d_Mo_sweep_77 ?_
          refine jr_wicmp_ge 141 ok rfl rfl d_Mo_sweep_80 (by decide) (fun c35 => ?_) (fun c35 => ?_)
          · replace hs := oq_pos c35 hs
            refine jr_aload_n ok 0 d_Mo_sweep_141 rfl rfl ?_
            refine jr_get (v := .ref (g 14)) ok 0 f_Mo_53 rfl rfl d_Mo_sweep_142 ?_
            refine jr_sipush ok d_Mo_sweep_145 (by decide +kernel) ?_
            refine jr_iload_n ok 1 d_Mo_sweep_148 rfl rfl ?_
            refine jr_imul ok d_Mo_sweep_149 ?_
            refine jr_iload_n ok 2 d_Mo_sweep_150 rfl rfl ?_
            refine jr_iadd ok d_Mo_sweep_151 ?_
            refine jr_aload_n ok 0 d_Mo_sweep_152 rfl rfl ?_
            refine jr_get (v := .ref (g 14)) ok 0 f_Mo_53 rfl rfl d_Mo_sweep_153 ?_
            refine jr_sipush ok d_Mo_sweep_156 (by decide +kernel) ?_
            refine jr_iload_n ok 1 d_Mo_sweep_159 rfl rfl ?_
            refine jr_imul ok d_Mo_sweep_160 ?_
            refine jr_iload_n ok 3 d_Mo_sweep_161 rfl rfl ?_
            refine jr_iadd ok d_Mo_sweep_162 ?_
            obtain ⟨hb36, hs⟩ := oq_if hs
            refine jr_iald ok 14 rfl rfl hb36.1 hb36.2 d_Mo_sweep_163 ?_
            obtain ⟨hb37, hs⟩ := oq_if hs
            refine jr_iast (moL D g (MS.w_m_rowSeries S (aU S.m_rowSeries ((256 * v1) + v2) (S.m_rowSeries ((256 * v1) + v3))))) ok 14 rfl rfl hb37.1 hb37.2  rfl d_Mo_sweep_164 ?_
            refine jr_iinc [(2, .int (ii (v2 + 1))), (0, .ref (g 0)), (1, .int (ii v1)), (3, .int (ii v3)), (5, .int (ii v5))] 2 ok d_Mo_sweep_165 rfl (by rw [hN]; decide) rfl ?_
            exact jr_lv [1, 2, 0, 3] rfl (B_168 v1 (v2 + 1) v3 (MS.w_m_rowSeries S (aU S.m_rowSeries ((256 * v1) + v2) (S.m_rowSeries ((256 * v1) + v3)))) hs)
          · replace hs := oq_neg c35 hs
            refine jr_aload_n ok 0 d_Mo_sweep_83 rfl rfl ?_
            refine jr_get (v := .ref (g 16)) ok 0 f_Mo_60 rfl rfl d_Mo_sweep_84 ?_
            refine jr_aload_n ok 0 d_Mo_sweep_87 rfl rfl ?_
            refine jr_iload_n ok 1 d_Mo_sweep_88 rfl rfl ?_
            refine jr_iload_n ok 2 d_Mo_sweep_89 rfl rfl ?_
            refine jr_iload ok 4 d_Mo_sweep_90 rfl ?_
            obtain ⟨r38, S38, hc38, hs⟩ := mb2_some hs
            refine jr_mV1 ok hR m_Mo_250 (c_Mo_cellAt (jx_l X) D g S v1 v2 v5 r38 S38 hc38) rfl rfl rfl rfl (Nat.le_of_ble_eq_true rfl) ⟨Nat.le_of_ble_eq_true rfl, Nat.le_of_ble_eq_true rfl⟩ ⟨Nat.zero_le _, Nat.zero_le _⟩ d_Mo_sweep_92 ?_
            refine jr_aload_n ok 0 d_Mo_sweep_95 rfl rfl ?_
            refine jr_get (v := .ref (g 16)) ok 0 f_Mo_60 rfl rfl d_Mo_sweep_96 ?_
            refine jr_aload_n ok 0 d_Mo_sweep_99 rfl rfl ?_
            refine jr_iload_n ok 1 d_Mo_sweep_100 rfl rfl ?_
            refine jr_iload_n ok 3 d_Mo_sweep_101 rfl rfl ?_
            refine jr_iload ok 4 d_Mo_sweep_102 rfl ?_
            obtain ⟨r39, S39, hc39, hs⟩ := mb2_some hs
            refine jr_mV1 ok hR m_Mo_250 (c_Mo_cellAt (jx_l X) D g S38 v1 v3 v5 r39 S39 hc39) rfl rfl rfl rfl (Nat.le_of_ble_eq_true rfl) ⟨Nat.le_of_ble_eq_true rfl, Nat.le_of_ble_eq_true rfl⟩ ⟨Nat.zero_le _, Nat.zero_le _⟩ d_Mo_sweep_104 ?_
            obtain ⟨hb40, hs⟩ := oq_if hs
            refine jr_zald ok 16 rfl rfl hb40.1 hb40.2 d_Mo_sweep_107 ?_
            obtain ⟨hb41, hs⟩ := oq_if hs
            obtain ⟨hb42, hs⟩ := oq_if hs
            refine jr_zast (moL D g (MS.w_m_isCell S39 (aU S39.m_isCell r38 (S39.m_isCell r39)))) ok 16 rfl rfl hb41.1 hb41.2 (nz_b hb42) rfl d_Mo_sweep_108 ?_
            refine jr_aload_n ok 0 d_Mo_sweep_109 rfl rfl ?_
            refine jr_get (v := .ref (g 15)) ok 0 f_Mo_57 rfl rfl d_Mo_sweep_110 ?_
            refine jr_aload_n ok 0 d_Mo_sweep_113 rfl rfl ?_
            refine jr_iload_n ok 1 d_Mo_sweep_114 rfl rfl ?_
            refine jr_iload_n ok 2 d_Mo_sweep_115 rfl rfl ?_
            refine jr_iload ok 4 d_Mo_sweep_116 rfl ?_
            obtain ⟨r43, S43, hc43, hs⟩ := mb2_some hs
            refine jr_mV1 ok hR m_Mo_250 (c_Mo_cellAt (jx_l X) D g (MS.w_m_isCell S39 (aU S39.m_isCell r38 (S39.m_isCell r39))) v1 v2 v5 r43 S43 hc43) rfl rfl rfl rfl (Nat.le_of_ble_eq_true rfl) ⟨Nat.le_of_ble_eq_true rfl, Nat.le_of_ble_eq_true rfl⟩ ⟨Nat.zero_le _, Nat.zero_le _⟩ d_Mo_sweep_118 ?_
            refine jr_aload_n ok 0 d_Mo_sweep_121 rfl rfl ?_
            refine jr_get (v := .ref (g 15)) ok 0 f_Mo_57 rfl rfl d_Mo_sweep_122 ?_
            refine jr_aload_n ok 0 d_Mo_sweep_125 rfl rfl ?_
            refine jr_iload_n ok 1 d_Mo_sweep_126 rfl rfl ?_
            refine jr_iload_n ok 3 d_Mo_sweep_127 rfl rfl ?_
            refine jr_iload ok 4 d_Mo_sweep_128 rfl ?_
            obtain ⟨r44, S44, hc44, hs⟩ := mb2_some hs
            refine jr_mV1 ok hR m_Mo_250 (c_Mo_cellAt (jx_l X) D g S43 v1 v3 v5 r44 S44 hc44) rfl rfl rfl rfl (Nat.le_of_ble_eq_true rfl) ⟨Nat.le_of_ble_eq_true rfl, Nat.le_of_ble_eq_true rfl⟩ ⟨Nat.zero_le _, Nat.zero_le _⟩ d_Mo_sweep_130 ?_
            obtain ⟨hb45, hs⟩ := oq_if hs
            refine jr_lald ok 15 rfl rfl hb45.1 hb45.2 d_Mo_sweep_133 ?_
            obtain ⟨hb46, hs⟩ := oq_if hs
            refine jr_last (moL D g (MS.w_m_cells S44 (aU S44.m_cells r43 (S44.m_cells r44)))) ok 15 rfl rfl hb46.1 hb46.2  rfl d_Mo_sweep_134 ?_
            refine jr_iinc [(5, .int (ii (v5 + 1))), (0, .ref (g 0)), (1, .int (ii v1)), (2, .int (ii v2)), (3, .int (ii v3))] 4 ok d_Mo_sweep_135 rfl (by rw [hN]; decide) rfl ?_
            refine jr_goto 74 ok d_Mo_sweep_138 (by decide) ?_
            exact jr_lv [1, 2, 3, 4, 0] rfl (ih74 v1 v2 v3 (v5 + 1) (MS.w_m_cells S44 (aU S44.m_cells r43 (S44.m_cells r44))) hs)
      have B_20 : ∀ (n20 : Nat), ∀ (v1 : Int) (v2 : Int) (v3 : Int) (v4 : Int) (v5 : Int) (S : MS), q_Mo_sweep_20 (q_Mo_sweep_4 n4) n20 v1 v2 v3 v4 v5 S = some (r, S9) → jw X 0 0 (moL D g S) [(0, .ref (g 0)), (1, .int (ii v1)), (2, .int (ii v2)), (3, .int (ii v3)), (4, .int (ii v4)), (5, .int (ii v5))] 20 [] := by
        intro n20
        induction n20 with
        | zero =>
          intro v1 v2 v3 v4 v5 S hs
          rw [q_Mo_sweep_20] at hs; cases hs
        | succ n20 ih20 =>
          have B_55 : ∀ (v1 : Int) (v2 : Int) (v3 : Int) (v5 : Int) (t0 : Int) (S : MS), q_Mo_sweep_55 (q_Mo_sweep_4 n4) (q_Mo_sweep_20 (q_Mo_sweep_4 n4) n20) v1 v2 v3 v5 t0 S = some (r, S9) → jw X 0 0 (moL D g S) [(0, .ref (g 0)), (1, .int (ii v1)), (2, .int (ii v2)), (3, .int (ii v3)), (5, .int (ii v5))] 55 [.int (ii t0)] := by
            intro v1 v2 v3 v5 t0 S hs
            rw [q_Mo_sweep_55] at hs
            refine jr_istore [(4, .int (ii t0)), (0, .ref (g 0)), (1, .int (ii v1)), (2, .int (ii v2)), (3, .int (ii v3)), (5, .int (ii v5))] ok d_Mo_sweep_55 (by rw [hN]; decide) rfl ?_
            refine jr_iinc [(5, .int (ii (v5 + 1))), (4, .int (ii t0)), (0, .ref (g 0)), (1, .int (ii v1)), (2, .int (ii v2)), (3, .int (ii v3))] 5 ok d_Mo_sweep_57 rfl (by rw [hN]; decide) rfl ?_
            refine jr_goto 20 ok d_Mo_sweep_60 (by decide) ?_
            exact jr_lv [2, 3, 4, 5, 1, 0] rfl (ih20 v1 v2 v3 t0 (v5 + 1) S hs)
          have B_50 : ∀ (v1 : Int) (v2 : Int) (v3 : Int) (v5 : Int) (S : MS), q_Mo_sweep_50 (q_Mo_sweep_4 n4) (q_Mo_sweep_20 (q_Mo_sweep_4 n4) n20) v1 v2 v3 v5 S = some (r, S9) → jw X 0 0 (moL D g S) [(0, .ref (g 0)), (1, .int (ii v1)), (2, .int (ii v2)), (3, .int (ii v3)), (5, .int (ii v5))] 50 [] := by
            intro v1 v2 v3 v5 S hs
            rw [q_Mo_sweep_50] at hs
            refine jr_iconst ok d_Mo_sweep_50 ?_
            refine jr_goto 55 ok d_Mo_sweep_51 (by decide) ?_
            exact jr_lv [0, 1, 2, 3, 4] rfl (B_55 v1 v2 v3 v5 1 S hs)
          intro v1 v2 v3 v4 v5 S hs
          rw [q_Mo_sweep_20] at hs
          refine jr_iload ok 5 d_Mo_sweep_20 rfl ?_
          refine jr_aload_n ok 0 d_Mo_sweep_22 rfl rfl ?_
          refine jr_get (v := .int (ii S.m_windows)) ok 0 f_Mo_234 rfl rfl d_Mo_sweep_23 ?_
          refine jr_wicmp_ge 63 ok rfl rfl d_Mo_sweep_26 (by decide) (fun c29 => ?_) (fun c29 => ?_)
          · replace hs := oq_pos c29 hs
            refine jr_iload ok 4 d_Mo_sweep_63 rfl ?_
            refine jr_wif_ne 71 ok rfl d_Mo_sweep_65 (by decide) (fun c30 => ?_) (fun c30 => ?_)
            · replace hs := oq_neg c30 hs
              refine jr_iconst ok d_Mo_sweep_71 ?_
              refine jr_istore [(5, .int (ii 0)), (0, .ref (g 0)), (1, .int (ii v1)), (2, .int (ii v2)), (3, .int (ii v3)), (4, .int (ii v4))] ok d_Mo_sweep_72 (by rw [hN]; decide) rfl ?_
              exact jr_lv [1, 2, 3, 4, 0] rfl (B_74 fU v1 v2 v3 0 S hs)
            · replace hs := oq_pos c30 hs
              refine jr_goto 168 ok d_Mo_sweep_68 (by decide) ?_
              exact jr_lv [0, 1, 2, 3] rfl (B_168 v1 v2 v3 S hs)
          · replace hs := oq_neg c29 hs
            refine jr_iload ok 4 d_Mo_sweep_29 rfl ?_
            refine jr_wif_ne 50 ok rfl d_Mo_sweep_31 (by decide) (fun c31 => ?_) (fun c31 => ?_)
            · replace hs := oq_neg c31 hs
              exact jr_lv [0, 1, 2, 3, 5] rfl (B_50 v1 v2 v3 v5 S hs)
            · replace hs := oq_pos c31 hs
              refine jr_aload_n ok 0 d_Mo_sweep_34 rfl rfl ?_
              refine jr_get (v := .ref (g 16)) ok 0 f_Mo_60 rfl rfl d_Mo_sweep_35 ?_
              refine jr_aload_n ok 0 d_Mo_sweep_38 rfl rfl ?_
              refine jr_iload_n ok 1 d_Mo_sweep_39 rfl rfl ?_
              refine jr_iload_n ok 3 d_Mo_sweep_40 rfl rfl ?_
              refine jr_iload ok 5 d_Mo_sweep_41 rfl ?_
              obtain ⟨r32, S32, hc32, hs⟩ := mb2_some hs
              refine jr_mV1 ok hR m_Mo_250 (c_Mo_cellAt (jx_l X) D g S v1 v3 v5 r32 S32 hc32) rfl rfl rfl rfl (Nat.le_of_ble_eq_true rfl) ⟨Nat.le_of_ble_eq_true rfl, Nat.le_of_ble_eq_true rfl⟩ ⟨Nat.zero_le _, Nat.zero_le _⟩ d_Mo_sweep_43 ?_
              obtain ⟨hb33, hs⟩ := oq_if hs
              refine jr_zald ok 16 rfl rfl hb33.1 hb33.2 d_Mo_sweep_46 ?_
              refine jr_wif_eq 54 ok rfl d_Mo_sweep_47 (by decide) (fun c34 => ?_) (fun c34 => ?_)
              · replace hs := oq_pos c34 hs
                refine jr_iconst ok d_Mo_sweep_54 ?_
                exact jr_lv [0, 1, 2, 3, 5] rfl (B_55 v1 v2 v3 v5 0 S32 hs)
              · replace hs := oq_neg c34 hs
                exact jr_lv [0, 1, 2, 3, 5] rfl (B_50 v1 v2 v3 v5 S32 hs)
      intro v1 v2 v3 S hs
      rw [q_Mo_sweep_4] at hs
      refine jr_iload_n ok 3 d_Mo_sweep_4 rfl rfl ?_
      refine jr_aload_n ok 0 d_Mo_sweep_5 rfl rfl ?_
      refine jr_get (v := .ref (g 13)) ok 0 f_Mo_50 rfl rfl d_Mo_sweep_6 ?_
      refine jr_iload_n ok 1 d_Mo_sweep_9 rfl rfl ?_
      obtain ⟨hb24, hs⟩ := oq_if hs
      refine jr_iald ok 13 rfl rfl hb24.1 hb24.2 d_Mo_sweep_10 ?_
      refine jr_wicmp_ge 174 ok rfl rfl d_Mo_sweep_11 (by decide) (fun c25 => ?_) (fun c25 => ?_)
      · replace hs := oq_pos c25 hs
        refine jr_aload_n ok 0 d_Mo_sweep_174 rfl rfl ?_
        refine jr_get (v := .ref (g 13)) ok 0 f_Mo_50 rfl rfl d_Mo_sweep_175 ?_
        refine jr_iload_n ok 1 d_Mo_sweep_178 rfl rfl ?_
        refine jr_iload_n ok 2 d_Mo_sweep_179 rfl rfl ?_
        obtain ⟨hb26, hs⟩ := oq_if hs
        refine jr_iast (moL D g (MS.w_m_tableRows S (aU S.m_tableRows v1 v2))) ok 13 rfl rfl hb26.1 hb26.2  rfl d_Mo_sweep_180 ?_
        refine jr_aload_n ok 0 d_Mo_sweep_181 rfl rfl ?_
        refine jr_get (v := .ref (g 17)) ok 0 f_Mo_64 rfl rfl d_Mo_sweep_182 ?_
        refine jr_iload_n ok 1 d_Mo_sweep_185 rfl rfl ?_
        refine jr_iconst ok d_Mo_sweep_186 ?_
        refine jr_iadd ok d_Mo_sweep_187 ?_
        refine jr_aload_n ok 0 d_Mo_sweep_188 rfl rfl ?_
        refine jr_get (v := .ref (g 17)) ok 0 f_Mo_64 rfl rfl d_Mo_sweep_189 ?_
        refine jr_iload_n ok 1 d_Mo_sweep_192 rfl rfl ?_
        obtain ⟨hb27, hs⟩ := oq_if hs
        refine jr_iald ok 17 rfl rfl hb27.1 hb27.2 d_Mo_sweep_193 ?_
        show jw X 0 0 (moL D g (MS.w_m_tableRows S (aU S.m_tableRows v1 v2))) [(0, .ref (g 0)), (1, .int (ii v1)), (2, .int (ii v2)), (3, .int (ii v3))] 194 [.int (ii (S.m_starts v1)), .int (ii (v1 + 1)), .ref (g 17)]
        refine jr_iload_n ok 2 d_Mo_sweep_194 rfl rfl ?_
        refine jr_aload_n ok 0 d_Mo_sweep_195 rfl rfl ?_
        refine jr_get (v := .int (ii S.m_windows)) ok 0 f_Mo_234 rfl rfl d_Mo_sweep_196 ?_
        refine jr_imul ok d_Mo_sweep_199 ?_
        refine jr_iadd ok d_Mo_sweep_200 ?_
        obtain ⟨hb28, hs⟩ := oq_if hs
        refine jr_iast (moL D g (MS.w_m_starts (MS.w_m_tableRows S (aU S.m_tableRows v1 v2)) (aU S.m_starts (v1 + 1) ((S.m_starts v1) + (v2 * S.m_windows))))) ok 17 rfl rfl hb28.1 hb28.2  rfl d_Mo_sweep_201 ?_
        exact jm_vret (Lf := moL D g) ok fin hs d_Mo_sweep_202
      · replace hs := oq_neg c25 hs
        refine jr_iconst ok d_Mo_sweep_14 ?_
        refine jr_istore [(4, .int (ii 0)), (0, .ref (g 0)), (1, .int (ii v1)), (2, .int (ii v2)), (3, .int (ii v3))] ok d_Mo_sweep_15 (by rw [hN]; decide) rfl ?_
        refine jr_iconst ok d_Mo_sweep_17 ?_
        refine jr_istore [(5, .int (ii 0)), (4, .int (ii 0)), (0, .ref (g 0)), (1, .int (ii v1)), (2, .int (ii v2)), (3, .int (ii v3))] ok d_Mo_sweep_18 (by rw [hN]; decide) rfl ?_
        exact jr_lv [2, 3, 4, 5, 1, 0] rfl (B_20 fU v1 v2 v3 0 0 S hs)
  show jw X 0 0 (moL D g S) [(0, .ref (g 0)), (1, .int (ii v1))] 0 []
  rw [s_Mo_sweep] at hs
  refine jr_iconst ok d_Mo_sweep_0 ?_
  refine jr_istore_n [(2, .int (ii 0)), (0, .ref (g 0)), (1, .int (ii v1))] ok d_Mo_sweep_1 rfl (by rw [hN]; decide) rfl ?_
  refine jr_iconst ok d_Mo_sweep_2 ?_
  refine jr_istore_n [(3, .int (ii 0)), (2, .int (ii 0)), (0, .ref (g 0)), (1, .int (ii v1))] ok d_Mo_sweep_3 rfl (by rw [hN]; decide) rfl ?_
  exact jr_lv [2, 3, 1, 0] rfl (B_4 fU v1 0 0 S hs)

def q_Mo_keepTable_143 (k35 : Int → MS → Option (Unit × MS)) : Nat → Int → Int → MS → Option (Unit × MS)
  | 0, _, _, _ => none
  | n + 1, v1, v2, S => if w32 S.m_windows ≤ w32 v2 then k35 (v1 + 1) S else mb2 (s_Mo_cellAt S 0 v1 v2) (fun r34 S34 => if (0 : Int) ≤ r34 ∧ r34 < (327680 : Int) then if (0 : Int) ≤ ((64 * v1) + v2) ∧ ((64 * v1) + v2) < (16384 : Int) then mb2 (s_Mo_cellAt (MS.w_m_shown S34 (aU S34.m_shown ((64 * v1) + v2) (S34.m_cells r34))) 0 v1 v2) (fun r37 S37 => if (0 : Int) ≤ r37 ∧ r37 < (327680 : Int) then if (0 : Int) ≤ ((64 * v1) + v2) ∧ ((64 * v1) + v2) < (16384 : Int) then if (S37.m_isCell r37) = 0 ∨ (S37.m_isCell r37) = 1 then (q_Mo_keepTable_143 k35 n) v1 (v2 + 1) (MS.w_m_isShown S37 (aU S37.m_isShown ((64 * v1) + v2) (S37.m_isCell r37))) else none else none else none) else none else none)

def q_Mo_keepTable_94 (k35 : Int → MS → Option (Unit × MS)) (k45 : Int → Int → MS → Option (Unit × MS)) : Nat → Int → Int → Int → Int → MS → Option (Unit × MS)
  | 0, _, _, _, _, _ => none
  | n + 1, v1, v2, v3, v4, S => if w32 S.m_valueLength ≤ w32 v4 then k45 v1 (v2 + 1) S else if (0 : Int) ≤ (v3 + v4) ∧ (v3 + v4) < (78128 : Int) then if (0 : Int) ≤ ((((6 * v1) + v2) * 24) + v4) ∧ ((((6 * v1) + v2) * 24) + v4) < (36864 : Int) then if -128 ≤ (S.m_texts (v3 + v4)) ∧ (S.m_texts (v3 + v4)) ≤ 127 then (q_Mo_keepTable_94 k35 k45 n) v1 v2 v3 (v4 + 1) (MS.w_m_rowTexts S (aU S.m_rowTexts ((((6 * v1) + v2) * 24) + v4) (S.m_texts (v3 + v4)))) else none else none else none

def q_Mo_keepTable_45 (k35 : Int → MS → Option (Unit × MS)) : Nat → Int → Int → MS → Option (Unit × MS)
  | 0, _, _, _ => none
  | n + 1, v1, v2, S => if w32 S.m_names ≤ w32 v2 then q_Mo_keepTable_143 k35 fU v1 0 S else if (0 : Int) ≤ v1 ∧ v1 < (5120 : Int) then if (0 : Int) ≤ v2 ∧ v2 < (120 : Int) then if (0 : Int) ≤ v2 ∧ v2 < (120 : Int) then mb2 (s_Mo_valueOf S (S.m_rowSeries v1) (S.m_nameFroms v2) (S.m_nameLengths v2)) (fun r27 S27 => if (0 : Int) ≤ ((6 * v1) + v2) ∧ ((6 * v1) + v2) < (1536 : Int) then q_Mo_keepTable_94 k35 (q_Mo_keepTable_45 k35 n) fU v1 v2 r27 0 (MS.w_m_rowLengths S27 (aU S27.m_rowLengths ((6 * v1) + v2) S27.m_valueLength)) else none) else none else none else none

def q_Mo_keepTable_35 : Nat → Int → MS → Option (Unit × MS)
  | 0, _, _ => none
  | n + 1, v1, S => if w32 S.m_rows ≤ w32 v1 then some ((), S) else q_Mo_keepTable_45 (q_Mo_keepTable_35 n) fU v1 0 S

def s_Mo_keepTable (S : MS)  : Option (Unit × MS) := if (0 : Int) ≤ 0 ∧ 0 < (20 : Int) then if (0 : Int) ≤ 0 ∧ 0 < (20 : Int) then q_Mo_keepTable_35 fU 0 (MS.w_m_shownWindows (MS.w_m_rows (MS.w_m_names (MS.w_m_isTable S 1) (S.m_tableNames 0)) (S.m_tableRows 0)) S.m_windows) else none else none
set_option maxHeartbeats 4000000 in
set_option maxRecDepth 100000 in
theorem c_Mo_keepTable (l : Launch) (D : jd_T) (g : Nat → Nat) (S : MS)  (r : Unit) (S9 : MS) (hs : s_Mo_keepTable S  = some (r, S9)) : jc_C l D y_Mo_keepTable b_Mo_keepTable 5 none { frames := 1, cells := 0, slots := 0, locals := 29 } [.ref (g 0)] (moL D g S) (fun _ : Unit => (.returned (none), True, (moL D g S9))) := by
  refine jc_of rfl (Nat.le_of_ble_eq_true rfl) ?_
  intro X hl hR hN ok hnm fin
  subst hl
  have B_35 : ∀ (n35 : Nat), ∀ (v1 : Int) (S : MS), q_Mo_keepTable_35 n35 v1 S = some (r, S9) → jw X 0 0 (moL D g S) [(0, .ref (g 0)), (1, .int (ii v1))] 35 [] := by
    intro n35
    induction n35 with
    | zero =>
      intro v1 S hs
      rw [q_Mo_keepTable_35] at hs; cases hs
    | succ n35 ih35 =>
      have B_143 : ∀ (n143 : Nat), ∀ (v1 : Int) (v2 : Int) (S : MS), q_Mo_keepTable_143 (q_Mo_keepTable_35 n35) n143 v1 v2 S = some (r, S9) → jw X 0 0 (moL D g S) [(0, .ref (g 0)), (1, .int (ii v1)), (2, .int (ii v2))] 143 [] := by
        intro n143
        induction n143 with
        | zero =>
          intro v1 v2 S hs
          rw [q_Mo_keepTable_143] at hs; cases hs
        | succ n143 ih143 =>
          intro v1 v2 S hs
          rw [q_Mo_keepTable_143] at hs
          refine jr_iload_n ok 2 d_Mo_keepTable_143 rfl rfl ?_
          refine jr_aload_n ok 0 d_Mo_keepTable_144 rfl rfl ?_
          refine jr_get (v := .int (ii S.m_windows)) ok 0 f_Mo_234 rfl rfl d_Mo_keepTable_145 ?_
          refine jr_wicmp_ge 203 ok rfl rfl d_Mo_keepTable_148 (by decide) (fun c33 => ?_) (fun c33 => ?_)
          · replace hs := oq_pos c33 hs
            refine jr_iinc [(1, .int (ii (v1 + 1))), (0, .ref (g 0)), (2, .int (ii v2))] 1 ok d_Mo_keepTable_203 rfl (by rw [hN]; decide) rfl ?_
            refine jr_goto 35 ok d_Mo_keepTable_206 (by decide) ?_
            exact jr_lv [1, 0] rfl (ih35 (v1 + 1) S hs)
          · replace hs := oq_neg c33 hs
            refine jr_aload_n ok 0 d_Mo_keepTable_151 rfl rfl ?_
            refine jr_get (v := .ref (g 27)) ok 0 f_Mo_95 rfl rfl d_Mo_keepTable_152 ?_
            refine jr_bipush ok d_Mo_keepTable_155 (by decide +kernel) ?_
            refine jr_iload_n ok 1 d_Mo_keepTable_157 rfl rfl ?_
            refine jr_imul ok d_Mo_keepTable_158 ?_
            refine jr_iload_n ok 2 d_Mo_keepTable_159 rfl rfl ?_
            refine jr_iadd ok d_Mo_keepTable_160 ?_
            refine jr_aload_n ok 0 d_Mo_keepTable_161 rfl rfl ?_
            refine jr_get (v := .ref (g 15)) ok 0 f_Mo_57 rfl rfl d_Mo_keepTable_162 ?_
            refine jr_aload_n ok 0 d_Mo_keepTable_165 rfl rfl ?_
            refine jr_iconst ok d_Mo_keepTable_166 ?_
            refine jr_iload_n ok 1 d_Mo_keepTable_167 rfl rfl ?_
            refine jr_iload_n ok 2 d_Mo_keepTable_168 rfl rfl ?_
            obtain ⟨r34, S34, hc34, hs⟩ := mb2_some hs
            refine jr_mV1 ok hR m_Mo_250 (c_Mo_cellAt (jx_l X) D g S 0 v1 v2 r34 S34 hc34) rfl rfl rfl rfl (Nat.le_of_ble_eq_true rfl) ⟨Nat.le_of_ble_eq_true rfl, Nat.le_of_ble_eq_true rfl⟩ ⟨Nat.zero_le _, Nat.zero_le _⟩ d_Mo_keepTable_169 ?_
            obtain ⟨hb35, hs⟩ := oq_if hs
            refine jr_lald ok 15 rfl rfl hb35.1 hb35.2 d_Mo_keepTable_172 ?_
            obtain ⟨hb36, hs⟩ := oq_if hs
            refine jr_last (moL D g (MS.w_m_shown S34 (aU S34.m_shown ((64 * v1) + v2) (S34.m_cells r34)))) ok 27 rfl rfl hb36.1 hb36.2  rfl d_Mo_keepTable_173 ?_
            refine jr_aload_n ok 0 d_Mo_keepTable_174 rfl rfl ?_
            refine jr_get (v := .ref (g 28)) ok 0 f_Mo_98 rfl rfl d_Mo_keepTable_175 ?_
            refine jr_bipush ok d_Mo_keepTable_178 (by decide +kernel) ?_
            refine jr_iload_n ok 1 d_Mo_keepTable_180 rfl rfl ?_
            refine jr_imul ok d_Mo_keepTable_181 ?_
            refine jr_iload_n ok 2 d_Mo_keepTable_182 rfl rfl ?_
            refine jr_iadd ok d_Mo_keepTable_183 ?_
            refine jr_aload_n ok 0 d_Mo_keepTable_184 rfl rfl ?_
            refine jr_get (v := .ref (g 16)) ok 0 f_Mo_60 rfl rfl d_Mo_keepTable_185 ?_
            refine jr_aload_n ok 0 d_Mo_keepTable_188 rfl rfl ?_
            refine jr_iconst ok d_Mo_keepTable_189 ?_
            refine jr_iload_n ok 1 d_Mo_keepTable_190 rfl rfl ?_
            refine jr_iload_n ok 2 d_Mo_keepTable_191 rfl rfl ?_
            obtain ⟨r37, S37, hc37, hs⟩ := mb2_some hs
            refine jr_mV1 ok hR m_Mo_250 (c_Mo_cellAt (jx_l X) D g (MS.w_m_shown S34 (aU S34.m_shown ((64 * v1) + v2) (S34.m_cells r34))) 0 v1 v2 r37 S37 hc37) rfl rfl rfl rfl (Nat.le_of_ble_eq_true rfl) ⟨Nat.le_of_ble_eq_true rfl, Nat.le_of_ble_eq_true rfl⟩ ⟨Nat.zero_le _, Nat.zero_le _⟩ d_Mo_keepTable_192 ?_
            obtain ⟨hb38, hs⟩ := oq_if hs
            refine jr_zald ok 16 rfl rfl hb38.1 hb38.2 d_Mo_keepTable_195 ?_
            obtain ⟨hb39, hs⟩ := oq_if hs
            obtain ⟨hb40, hs⟩ := oq_if hs
            refine jr_zast (moL D g (MS.w_m_isShown S37 (aU S37.m_isShown ((64 * v1) + v2) (S37.m_isCell r37)))) ok 28 rfl rfl hb39.1 hb39.2 (nz_b hb40) rfl d_Mo_keepTable_196 ?_
            refine jr_iinc [(2, .int (ii (v2 + 1))), (0, .ref (g 0)), (1, .int (ii v1))] 2 ok d_Mo_keepTable_197 rfl (by rw [hN]; decide) rfl ?_
            refine jr_goto 143 ok d_Mo_keepTable_200 (by decide) ?_
            exact jr_lv [1, 2, 0] rfl (ih143 v1 (v2 + 1) (MS.w_m_isShown S37 (aU S37.m_isShown ((64 * v1) + v2) (S37.m_isCell r37))) hs)
      have B_45 : ∀ (n45 : Nat), ∀ (v1 : Int) (v2 : Int) (S : MS), q_Mo_keepTable_45 (q_Mo_keepTable_35 n35) n45 v1 v2 S = some (r, S9) → jw X 0 0 (moL D g S) [(0, .ref (g 0)), (1, .int (ii v1)), (2, .int (ii v2))] 45 [] := by
        intro n45
        induction n45 with
        | zero =>
          intro v1 v2 S hs
          rw [q_Mo_keepTable_45] at hs; cases hs
        | succ n45 ih45 =>
          have B_94 : ∀ (n94 : Nat), ∀ (v1 : Int) (v2 : Int) (v3 : Int) (v4 : Int) (S : MS), q_Mo_keepTable_94 (q_Mo_keepTable_35 n35) (q_Mo_keepTable_45 (q_Mo_keepTable_35 n35) n45) n94 v1 v2 v3 v4 S = some (r, S9) → jw X 0 0 (moL D g S) [(0, .ref (g 0)), (1, .int (ii v1)), (2, .int (ii v2)), (3, .int (ii v3)), (4, .int (ii v4))] 94 [] := by
            intro n94
            induction n94 with
            | zero =>
              intro v1 v2 v3 v4 S hs
              rw [q_Mo_keepTable_94] at hs; cases hs
            | succ n94 ih94 =>
              intro v1 v2 v3 v4 S hs
              rw [q_Mo_keepTable_94] at hs
              refine jr_iload ok 4 d_Mo_keepTable_94 rfl ?_
              refine jr_aload_n ok 0 d_Mo_keepTable_96 rfl rfl ?_
              refine jr_get (v := .int (ii S.m_valueLength)) ok 0 f_Mo_237 rfl rfl d_Mo_keepTable_97 ?_
              refine jr_wicmp_ge 135 ok rfl rfl d_Mo_keepTable_100 (by decide) (fun c29 => ?_) (fun c29 => ?_)
              · replace hs := oq_pos c29 hs
                refine jr_iinc [(2, .int (ii (v2 + 1))), (0, .ref (g 0)), (1, .int (ii v1)), (3, .int (ii v3)), (4, .int (ii v4))] 2 ok d_Mo_keepTable_135 rfl (by rw [hN]; decide) rfl ?_
                refine jr_goto 45 ok d_Mo_keepTable_138 (by decide) ?_
                exact jr_lv [1, 2, 0] rfl (ih45 v1 (v2 + 1) S hs)
              · replace hs := oq_neg c29 hs
                refine jr_aload_n ok 0 d_Mo_keepTable_103 rfl rfl ?_
                refine jr_get (v := .ref (g 25)) ok 0 f_Mo_89 rfl rfl d_Mo_keepTable_104 ?_
                refine jr_bipush ok d_Mo_keepTable_107 (by decide +kernel) ?_
                refine jr_iload_n ok 1 d_Mo_keepTable_109 rfl rfl ?_
                refine jr_imul ok d_Mo_keepTable_110 ?_
                refine jr_iload_n ok 2 d_Mo_keepTable_111 rfl rfl ?_
                refine jr_iadd ok d_Mo_keepTable_112 ?_
                refine jr_bipush ok d_Mo_keepTable_113 (by decide +kernel) ?_
                refine jr_imul ok d_Mo_keepTable_115 ?_
                refine jr_iload ok 4 d_Mo_keepTable_116 rfl ?_
                refine jr_iadd ok d_Mo_keepTable_118 ?_
                refine jr_aload_n ok 0 d_Mo_keepTable_119 rfl rfl ?_
                refine jr_get (v := .ref (g 2)) ok 0 f_Mo_15 rfl rfl d_Mo_keepTable_120 ?_
                refine jr_iload_n ok 3 d_Mo_keepTable_123 rfl rfl ?_
                refine jr_iload ok 4 d_Mo_keepTable_124 rfl ?_
                refine jr_iadd ok d_Mo_keepTable_126 ?_
                obtain ⟨hb30, hs⟩ := oq_if hs
                refine jr_bald ok 2 rfl rfl hb30.1 hb30.2 d_Mo_keepTable_127 ?_
                obtain ⟨hb31, hs⟩ := oq_if hs
                obtain ⟨hb32, hs⟩ := oq_if hs
                refine jr_bast (moL D g (MS.w_m_rowTexts S (aU S.m_rowTexts ((((6 * v1) + v2) * 24) + v4) (S.m_texts (v3 + v4))))) ok 25 rfl rfl hb31.1 hb31.2 (nar_b hb32) rfl d_Mo_keepTable_128 ?_
                refine jr_iinc [(4, .int (ii (v4 + 1))), (0, .ref (g 0)), (1, .int (ii v1)), (2, .int (ii v2)), (3, .int (ii v3))] 4 ok d_Mo_keepTable_129 rfl (by rw [hN]; decide) rfl ?_
                refine jr_goto 94 ok d_Mo_keepTable_132 (by decide) ?_
                exact jr_lv [1, 2, 3, 4, 0] rfl (ih94 v1 v2 v3 (v4 + 1) (MS.w_m_rowTexts S (aU S.m_rowTexts ((((6 * v1) + v2) * 24) + v4) (S.m_texts (v3 + v4)))) hs)
          intro v1 v2 S hs
          rw [q_Mo_keepTable_45] at hs
          refine jr_iload_n ok 2 d_Mo_keepTable_45 rfl rfl ?_
          refine jr_aload_n ok 0 d_Mo_keepTable_46 rfl rfl ?_
          refine jr_get (v := .int (ii S.m_names)) ok 0 f_Mo_355 rfl rfl d_Mo_keepTable_47 ?_
          refine jr_wicmp_ge 141 ok rfl rfl d_Mo_keepTable_50 (by decide) (fun c23 => ?_) (fun c23 => ?_)
          · replace hs := oq_pos c23 hs
            refine jr_iconst ok d_Mo_keepTable_141 ?_
            refine jr_istore_n [(2, .int (ii 0)), (0, .ref (g 0)), (1, .int (ii v1))] ok d_Mo_keepTable_142 rfl (by rw [hN]; decide) rfl ?_
            exact jr_lv [1, 2, 0] rfl (B_143 fU v1 0 S hs)
          · replace hs := oq_neg c23 hs
            refine jr_aload_n ok 0 d_Mo_keepTable_53 rfl rfl ?_
            refine jr_aload_n ok 0 d_Mo_keepTable_54 rfl rfl ?_
            refine jr_get (v := .ref (g 14)) ok 0 f_Mo_53 rfl rfl d_Mo_keepTable_55 ?_
            refine jr_iload_n ok 1 d_Mo_keepTable_58 rfl rfl ?_
            obtain ⟨hb24, hs⟩ := oq_if hs
            refine jr_iald ok 14 rfl rfl hb24.1 hb24.2 d_Mo_keepTable_59 ?_
            refine jr_aload_n ok 0 d_Mo_keepTable_60 rfl rfl ?_
            refine jr_get (v := .ref (g 11)) ok 0 f_Mo_44 rfl rfl d_Mo_keepTable_61 ?_
            refine jr_iload_n ok 2 d_Mo_keepTable_64 rfl rfl ?_
            obtain ⟨hb25, hs⟩ := oq_if hs
            refine jr_iald ok 11 rfl rfl hb25.1 hb25.2 d_Mo_keepTable_65 ?_
            refine jr_aload_n ok 0 d_Mo_keepTable_66 rfl rfl ?_
            refine jr_get (v := .ref (g 12)) ok 0 f_Mo_47 rfl rfl d_Mo_keepTable_67 ?_
            refine jr_iload_n ok 2 d_Mo_keepTable_70 rfl rfl ?_
            obtain ⟨hb26, hs⟩ := oq_if hs
            refine jr_iald ok 12 rfl rfl hb26.1 hb26.2 d_Mo_keepTable_71 ?_
            obtain ⟨r27, S27, hc27, hs⟩ := mb2_some hs
            refine jr_mV1 ok hR m_Mo_240 (c_Mo_valueOf (jx_l X) D g S (S.m_rowSeries v1) (S.m_nameFroms v2) (S.m_nameLengths v2) r27 S27 hc27) rfl rfl rfl rfl (Nat.le_of_ble_eq_true rfl) ⟨Nat.le_of_ble_eq_true rfl, Nat.le_of_ble_eq_true rfl⟩ ⟨Nat.zero_le _, Nat.zero_le _⟩ d_Mo_keepTable_72 ?_
            refine jr_istore_n [(3, .int (ii r27)), (0, .ref (g 0)), (1, .int (ii v1)), (2, .int (ii v2))] ok d_Mo_keepTable_75 rfl (by rw [hN]; decide) rfl ?_
            refine jr_aload_n ok 1 d_Mo_keepTable_76 rfl rfl ?_
            refine jr_get (v := .ref (g 26)) ok 0 f_Mo_92 rfl rfl d_Mo_keepTable_77 ?_
            refine jr_bipush ok d_Mo_keepTable_80 (by decide +kernel) ?_
            refine jr_iload_n ok 2 d_Mo_keepTable_82 rfl rfl ?_
            refine jr_imul ok d_Mo_keepTable_83 ?_
            refine jr_iload_n ok 3 d_Mo_keepTable_84 rfl rfl ?_
            refine jr_iadd ok d_Mo_keepTable_85 ?_
            refine jr_aload_n ok 1 d_Mo_keepTable_86 rfl rfl ?_
            refine jr_get (v := .int (ii S27.m_valueLength)) ok 0 f_Mo_237 rfl rfl d_Mo_keepTable_87 ?_
            obtain ⟨hb28, hs⟩ := oq_if hs
            refine jr_iast (moL D g (MS.w_m_rowLengths S27 (aU S27.m_rowLengths ((6 * v1) + v2) S27.m_valueLength))) ok 26 rfl rfl hb28.1 hb28.2  rfl d_Mo_keepTable_90 ?_
            refine jr_iconst ok d_Mo_keepTable_91 ?_
            refine jr_istore [(4, .int (ii 0)), (3, .int (ii r27)), (0, .ref (g 0)), (1, .int (ii v1)), (2, .int (ii v2))] ok d_Mo_keepTable_92 (by rw [hN]; decide) rfl ?_
            exact jr_lv [2, 3, 4, 1, 0] rfl (B_94 fU v1 v2 r27 0 (MS.w_m_rowLengths S27 (aU S27.m_rowLengths ((6 * v1) + v2) S27.m_valueLength)) hs)
      intro v1 S hs
      rw [q_Mo_keepTable_35] at hs
      refine jr_iload_n ok 1 d_Mo_keepTable_35 rfl rfl ?_
      refine jr_aload_n ok 0 d_Mo_keepTable_36 rfl rfl ?_
      refine jr_get (v := .int (ii S.m_rows)) ok 0 f_Mo_358 rfl rfl d_Mo_keepTable_37 ?_
      refine jr_wicmp_ge 209 ok rfl rfl d_Mo_keepTable_40 (by decide) (fun c22 => ?_) (fun c22 => ?_)
      · replace hs := oq_pos c22 hs
        exact jm_vret (Lf := moL D g) ok fin hs d_Mo_keepTable_209
      · replace hs := oq_neg c22 hs
        refine jr_iconst ok d_Mo_keepTable_43 ?_
        refine jr_istore_n [(2, .int (ii 0)), (0, .ref (g 0)), (1, .int (ii v1))] ok d_Mo_keepTable_44 rfl (by rw [hN]; decide) rfl ?_
        exact jr_lv [1, 2, 0] rfl (B_45 fU v1 0 S hs)
  show jw X 0 0 (moL D g S) [(0, .ref (g 0))] 0 []
  rw [s_Mo_keepTable] at hs
  refine jr_aload_n ok 0 d_Mo_keepTable_0 rfl rfl ?_
  refine jr_iconst ok d_Mo_keepTable_1 ?_
  refine jr_put (moL D g (MS.w_m_isTable S 1)) ok 0 f_Mo_352 rfl (by decide +kernel) rfl (Nat.le_of_ble_eq_true rfl) rfl d_Mo_keepTable_2 ?_
  refine jr_aload_n ok 0 d_Mo_keepTable_5 rfl rfl ?_
  refine jr_aload_n ok 0 d_Mo_keepTable_6 rfl rfl ?_
  refine jr_get (v := .ref (g 10)) ok 0 f_Mo_41 rfl rfl d_Mo_keepTable_7 ?_
  refine jr_iconst ok d_Mo_keepTable_10 ?_
  obtain ⟨hb41, hs⟩ := oq_if hs
  refine jr_iald ok 10 rfl rfl hb41.1 hb41.2 d_Mo_keepTable_11 ?_
  show jw X 0 0 (moL D g (MS.w_m_isTable S 1)) [(0, .ref (g 0))] 12 [.int (ii (S.m_tableNames 0)), .ref (g 0)]
  refine jr_put (moL D g (MS.w_m_names (MS.w_m_isTable S 1) (S.m_tableNames 0))) ok 0 f_Mo_355 rfl rfl rfl (Nat.le_of_ble_eq_true rfl) rfl d_Mo_keepTable_12 ?_
  refine jr_aload_n ok 0 d_Mo_keepTable_15 rfl rfl ?_
  refine jr_aload_n ok 0 d_Mo_keepTable_16 rfl rfl ?_
  refine jr_get (v := .ref (g 13)) ok 0 f_Mo_50 rfl rfl d_Mo_keepTable_17 ?_
  refine jr_iconst ok d_Mo_keepTable_20 ?_
  obtain ⟨hb42, hs⟩ := oq_if hs
  refine jr_iald ok 13 rfl rfl hb42.1 hb42.2 d_Mo_keepTable_21 ?_
  show jw X 0 0 (moL D g (MS.w_m_names (MS.w_m_isTable S 1) (S.m_tableNames 0))) [(0, .ref (g 0))] 22 [.int (ii (S.m_tableRows 0)), .ref (g 0)]
  refine jr_put (moL D g (MS.w_m_rows (MS.w_m_names (MS.w_m_isTable S 1) (S.m_tableNames 0)) (S.m_tableRows 0))) ok 0 f_Mo_358 rfl rfl rfl (Nat.le_of_ble_eq_true rfl) rfl d_Mo_keepTable_22 ?_
  refine jr_aload_n ok 0 d_Mo_keepTable_25 rfl rfl ?_
  refine jr_aload_n ok 0 d_Mo_keepTable_26 rfl rfl ?_
  refine jr_get (v := .int (ii S.m_windows)) ok 0 f_Mo_234 rfl rfl d_Mo_keepTable_27 ?_
  refine jr_put (moL D g (MS.w_m_shownWindows (MS.w_m_rows (MS.w_m_names (MS.w_m_isTable S 1) (S.m_tableNames 0)) (S.m_tableRows 0)) S.m_windows)) ok 0 f_Mo_361 rfl rfl rfl (Nat.le_of_ble_eq_true rfl) rfl d_Mo_keepTable_30 ?_
  refine jr_iconst ok d_Mo_keepTable_33 ?_
  refine jr_istore_n [(1, .int (ii 0)), (0, .ref (g 0))] ok d_Mo_keepTable_34 rfl (by rw [hN]; decide) rfl ?_
  exact jr_lv [1, 0] rfl (B_35 fU 0 (MS.w_m_shownWindows (MS.w_m_rows (MS.w_m_names (MS.w_m_isTable S 1) (S.m_tableNames 0)) (S.m_tableRows 0)) S.m_windows) hs)

def q_Mo_readLabels_206 (t0 : Int) (t1 : Int) (t2 : Int) (S : MS) : Option (Int × MS) := mb2 (s_Mo_flaw S t2 (t1 + t0)) (fun r71 S71 => if r71 = 0 ∨ r71 = 1 then some (r71, S71) else none)

def q_Mo_readLabels_188 (v4 : Int) (v5 : Int) (S : MS) : Option (Int × MS) := if w32 v5 ≤ 24 then q_Mo_readLabels_206 0 v4 7 S else q_Mo_readLabels_206 24 v4 7 S

def q_Mo_readLabels_142 (k7 : Int → MS → Option (Int × MS)) (k95 : Int → Int → Int → Int → MS → Option (Int × MS)) (v1 : Int) (v2 : Int) (v4 : Int) (t0 : Int) (S : MS) : Option (Int × MS) := k95 v1 v2 t0 (v4 + 1) S

def q_Mo_readLabels_137 (k7 : Int → MS → Option (Int × MS)) (k95 : Int → Int → Int → Int → MS → Option (Int × MS)) (v1 : Int) (v2 : Int) (v4 : Int) (S : MS) : Option (Int × MS) := q_Mo_readLabels_142 k7 k95 v1 v2 v4 1 S

def q_Mo_readLabels_95 (k7 : Int → MS → Option (Int × MS)) : Nat → Int → Int → Int → Int → MS → Option (Int × MS)
  | 0, _, _, _, _, _ => none
  | n + 1, v1, v2, v3, v4, S => if w32 S.m_labelCount ≤ w32 v4 then if w32 v3 = 0 then mb2 (s_Mo_wordLength S ((v1 + v2) + 1)) (fun r51 S51 => if w32 r51 = 0 then q_Mo_readLabels_188 ((v1 + v2) + 1) r51 S51 else if w32 r51 ≤ 24 then if (0 : Int) ≤ (4 * S51.m_labelCount) ∧ (4 * S51.m_labelCount) < (28 : Int) then if (0 : Int) ≤ ((4 * S51.m_labelCount) + 1) ∧ ((4 * S51.m_labelCount) + 1) < (28 : Int) then if (0 : Int) ≤ ((4 * S51.m_labelCount) + 2) ∧ ((4 * S51.m_labelCount) + 2) < (28 : Int) then if (0 : Int) ≤ ((4 * S51.m_labelCount) + 3) ∧ ((4 * S51.m_labelCount) + 3) < (28 : Int) then if w32 (((v1 + v2) + 1) + r51) = w32 S51.m_length then some (1, MS.w_m_labelCount (MS.w_m_labels S51 (aU (aU (aU (aU S51.m_labels (4 * S51.m_labelCount) v1) ((4 * S51.m_labelCount) + 1) v2) ((4 * S51.m_labelCount) + 2) ((v1 + v2) + 1)) ((4 * S51.m_labelCount) + 3) r51)) (S51.m_labelCount + 1)) else if (0 : Int) ≤ (((v1 + v2) + 1) + r51) ∧ (((v1 + v2) + 1) + r51) < (65536 : Int) then if w32 (S51.m_tape (((v1 + v2) + 1) + r51)) = 44 then k7 ((((v1 + v2) + 1) + r51) + 1) (MS.w_m_labelCount (MS.w_m_labels S51 (aU (aU (aU (aU S51.m_labels (4 * S51.m_labelCount) v1) ((4 * S51.m_labelCount) + 1) v2) ((4 * S51.m_labelCount) + 2) ((v1 + v2) + 1)) ((4 * S51.m_labelCount) + 3) r51)) (S51.m_labelCount + 1)) else mb2 (s_Mo_flaw (MS.w_m_labelCount (MS.w_m_labels S51 (aU (aU (aU (aU S51.m_labels (4 * S51.m_labelCount) v1) ((4 * S51.m_labelCount) + 1) v2) ((4 * S51.m_labelCount) + 2) ((v1 + v2) + 1)) ((4 * S51.m_labelCount) + 3) r51)) (S51.m_labelCount + 1)) 7 (((v1 + v2) + 1) + r51)) (fun r61 S61 => if r61 = 0 ∨ r61 = 1 then some (r61, S61) else none) else none else none else none else none else none else q_Mo_readLabels_188 ((v1 + v2) + 1) r51 S51) else mb2 (s_Mo_flaw S 8 v1) (fun r63 S63 => if r63 = 0 ∨ r63 = 1 then some (r63, S63) else none) else if w32 v3 = 0 then if (0 : Int) ≤ (4 * v4) ∧ (4 * v4) < (28 : Int) then if (0 : Int) ≤ ((4 * v4) + 1) ∧ ((4 * v4) + 1) < (28 : Int) then mb2 (s_Mo_compare S (S.m_labels (4 * v4)) (S.m_labels ((4 * v4) + 1)) v1 v2) (fun r68 S68 => if w32 r68 = 0 then q_Mo_readLabels_137 k7 (q_Mo_readLabels_95 k7 n) v1 v2 v4 S68 else q_Mo_readLabels_142 k7 (q_Mo_readLabels_95 k7 n) v1 v2 v4 0 S68) else none else none else q_Mo_readLabels_137 k7 (q_Mo_readLabels_95 k7 n) v1 v2 v4 S

def q_Mo_readLabels_91 (k7 : Int → MS → Option (Int × MS)) (v1 : Int) (v2 : Int) (t0 : Int) (S : MS) : Option (Int × MS) := q_Mo_readLabels_95 k7 fU v1 v2 t0 0 S

def q_Mo_readLabels_67 (v1 : Int) (v2 : Int) (S : MS) : Option (Int × MS) := mb2 (s_Mo_flaw S 7 (v1 + v2)) (fun r47 S47 => if r47 = 0 ∨ r47 = 1 then some (r47, S47) else none)

def q_Mo_readLabels_39 (t0 : Int) (t1 : Int) (t2 : Int) (S : MS) : Option (Int × MS) := mb2 (s_Mo_flaw S t2 (t1 + t0)) (fun r45 S45 => if r45 = 0 ∨ r45 = 1 then some (r45, S45) else none)

def q_Mo_readLabels_23 (v1 : Int) (v2 : Int) (S : MS) : Option (Int × MS) := if w32 v2 ≤ 24 then q_Mo_readLabels_39 0 v1 7 S else q_Mo_readLabels_39 24 v1 7 S

def q_Mo_readLabels_7 : Nat → Int → MS → Option (Int × MS)
  | 0, _, _ => none
  | n + 1, v1, S => mb2 (s_Mo_wordLength S v1) (fun r37 S37 => if w32 r37 = 0 then q_Mo_readLabels_23 v1 r37 S37 else if w32 r37 ≤ 24 then if w32 S37.m_length ≤ w32 (v1 + r37) then q_Mo_readLabels_67 v1 r37 S37 else if (0 : Int) ≤ (v1 + r37) ∧ (v1 + r37) < (65536 : Int) then if w32 (S37.m_tape (v1 + r37)) = 61 then if w32 S37.m_labelCount = 6 then q_Mo_readLabels_91 (q_Mo_readLabels_7 n) v1 r37 1 S37 else q_Mo_readLabels_91 (q_Mo_readLabels_7 n) v1 r37 0 S37 else q_Mo_readLabels_67 v1 r37 S37 else none else q_Mo_readLabels_23 v1 r37 S37)

def s_Mo_readLabels (S : MS)  : Option (Int × MS) := q_Mo_readLabels_7 fU 0 (MS.w_m_labelCount S 0)
set_option maxHeartbeats 4000000 in
set_option maxRecDepth 100000 in
theorem c_Mo_readLabels (l : Launch) (D : jd_T) (g : Nat → Nat) (S : MS)  (r : Int) (S9 : MS) (hs : s_Mo_readLabels S  = some (r, S9)) : jc_C l D y_Mo_readLabels b_Mo_readLabels 6 (some .boolean) { frames := 2, cells := 0, slots := 0, locals := 42 } [.ref (g 0)] (moL D g S) (fun _ : Unit => (.returned (some (.int (ii r))), True, (moL D g S9))) := by
  refine jc_of rfl (Nat.le_of_ble_eq_true rfl) ?_
  intro X hl hR hN ok hnm fin
  subst hl
  have B_206 : ∀ (t0 : Int) (t1 : Int) (t2 : Int) (S : MS), q_Mo_readLabels_206 t0 t1 t2 S = some (r, S9) → jw X 0 0 (moL D g S) [] 206 [.int (ii t0), .int (ii t1), .int (ii t2), .ref (g 0)] := by
    intro t0 t1 t2 S hs
    rw [q_Mo_readLabels_206] at hs
    refine jr_iadd ok d_Mo_readLabels_206 ?_
    obtain ⟨r71, S71, hc71, hs⟩ := mb2_some hs
    refine jr_mV1 ok hR m_Mo_125 (c_Mo_flaw (jx_l X) D g S t2 (t1 + t0) r71 S71 hc71) rfl rfl rfl rfl (Nat.le_of_ble_eq_true rfl) ⟨Nat.le_of_ble_eq_true rfl, Nat.le_of_ble_eq_true rfl⟩ ⟨Nat.zero_le _, Nat.zero_le _⟩ d_Mo_readLabels_207 ?_
    obtain ⟨hb72, hs⟩ := oq_if hs
    exact jm_zret (Lf := moL D g) ok (nz_b hb72) fin hs d_Mo_readLabels_210
  have B_188 : ∀ (v4 : Int) (v5 : Int) (S : MS), q_Mo_readLabels_188 v4 v5 S = some (r, S9) → jw X 0 0 (moL D g S) [(0, .ref (g 0)), (4, .int (ii v4)), (5, .int (ii v5))] 188 [] := by
    intro v4 v5 S hs
    rw [q_Mo_readLabels_188] at hs
    refine jr_aload_n ok 0 d_Mo_readLabels_188 rfl rfl ?_
    refine jr_bipush ok d_Mo_readLabels_189 (by decide +kernel) ?_
    refine jr_iload ok 1 d_Mo_readLabels_191 rfl ?_
    refine jr_iload ok 2 d_Mo_readLabels_193 rfl ?_
    refine jr_bipush ok d_Mo_readLabels_195 (by decide +kernel) ?_
    refine jr_wicmp_le 205 ok rfl (show w32 24 = 24 by decide) d_Mo_readLabels_197 (by decide) (fun c70 => ?_) (fun c70 => ?_)
    · replace hs := oq_pos c70 hs
      refine jr_iconst ok d_Mo_readLabels_205 ?_
      exact jr_lv [] rfl (B_206 0 v4 7 S hs)
    · replace hs := oq_neg c70 hs
      refine jr_bipush ok d_Mo_readLabels_200 (by decide +kernel) ?_
      refine jr_goto 206 ok d_Mo_readLabels_202 (by decide) ?_
      exact jr_lv [] rfl (B_206 24 v4 7 S hs)
  have B_67 : ∀ (v1 : Int) (v2 : Int) (S : MS), q_Mo_readLabels_67 v1 v2 S = some (r, S9) → jw X 0 0 (moL D g S) [(0, .ref (g 0)), (1, .int (ii v1)), (2, .int (ii v2))] 67 [] := by
    intro v1 v2 S hs
    rw [q_Mo_readLabels_67] at hs
    refine jr_aload_n ok 0 d_Mo_readLabels_67 rfl rfl ?_
    refine jr_bipush ok d_Mo_readLabels_68 (by decide +kernel) ?_
    refine jr_iload_n ok 1 d_Mo_readLabels_70 rfl rfl ?_
    refine jr_iload_n ok 2 d_Mo_readLabels_71 rfl rfl ?_
    refine jr_iadd ok d_Mo_readLabels_72 ?_
    obtain ⟨r47, S47, hc47, hs⟩ := mb2_some hs
    refine jr_mV1 ok hR m_Mo_125 (c_Mo_flaw (jx_l X) D g S 7 (v1 + v2) r47 S47 hc47) rfl rfl rfl rfl (Nat.le_of_ble_eq_true rfl) ⟨Nat.le_of_ble_eq_true rfl, Nat.le_of_ble_eq_true rfl⟩ ⟨Nat.zero_le _, Nat.zero_le _⟩ d_Mo_readLabels_73 ?_
    obtain ⟨hb48, hs⟩ := oq_if hs
    exact jm_zret (Lf := moL D g) ok (nz_b hb48) fin hs d_Mo_readLabels_76
  have B_39 : ∀ (t0 : Int) (t1 : Int) (t2 : Int) (S : MS), q_Mo_readLabels_39 t0 t1 t2 S = some (r, S9) → jw X 0 0 (moL D g S) [] 39 [.int (ii t0), .int (ii t1), .int (ii t2), .ref (g 0)] := by
    intro t0 t1 t2 S hs
    rw [q_Mo_readLabels_39] at hs
    refine jr_iadd ok d_Mo_readLabels_39 ?_
    obtain ⟨r45, S45, hc45, hs⟩ := mb2_some hs
    refine jr_mV1 ok hR m_Mo_125 (c_Mo_flaw (jx_l X) D g S t2 (t1 + t0) r45 S45 hc45) rfl rfl rfl rfl (Nat.le_of_ble_eq_true rfl) ⟨Nat.le_of_ble_eq_true rfl, Nat.le_of_ble_eq_true rfl⟩ ⟨Nat.zero_le _, Nat.zero_le _⟩ d_Mo_readLabels_40 ?_
    obtain ⟨hb46, hs⟩ := oq_if hs
    exact jm_zret (Lf := moL D g) ok (nz_b hb46) fin hs d_Mo_readLabels_43
  have B_23 : ∀ (v1 : Int) (v2 : Int) (S : MS), q_Mo_readLabels_23 v1 v2 S = some (r, S9) → jw X 0 0 (moL D g S) [(0, .ref (g 0)), (1, .int (ii v1)), (2, .int (ii v2))] 23 [] := by
    intro v1 v2 S hs
    rw [q_Mo_readLabels_23] at hs
    refine jr_aload_n ok 0 d_Mo_readLabels_23 rfl rfl ?_
    refine jr_bipush ok d_Mo_readLabels_24 (by decide +kernel) ?_
    refine jr_iload_n ok 1 d_Mo_readLabels_26 rfl rfl ?_
    refine jr_iload_n ok 2 d_Mo_readLabels_27 rfl rfl ?_
    refine jr_bipush ok d_Mo_readLabels_28 (by decide +kernel) ?_
    refine jr_wicmp_le 38 ok rfl (show w32 24 = 24 by decide) d_Mo_readLabels_30 (by decide) (fun c44 => ?_) (fun c44 => ?_)
    · replace hs := oq_pos c44 hs
      refine jr_iconst ok d_Mo_readLabels_38 ?_
      exact jr_lv [] rfl (B_39 0 v1 7 S hs)
    · replace hs := oq_neg c44 hs
      refine jr_bipush ok d_Mo_readLabels_33 (by decide +kernel) ?_
      refine jr_goto 39 ok d_Mo_readLabels_35 (by decide) ?_
      exact jr_lv [] rfl (B_39 24 v1 7 S hs)
  have B_7 : ∀ (n7 : Nat), ∀ (v1 : Int) (S : MS), q_Mo_readLabels_7 n7 v1 S = some (r, S9) → jw X 0 0 (moL D g S) [(0, .ref (g 0)), (1, .int (ii v1))] 7 [] := by
    intro n7
    induction n7 with
    | zero =>
      intro v1 S hs
      rw [q_Mo_readLabels_7] at hs; cases hs
    | succ n7 ih7 =>
      have B_95 : ∀ (n95 : Nat), ∀ (v1 : Int) (v2 : Int) (v3 : Int) (v4 : Int) (S : MS), q_Mo_readLabels_95 (q_Mo_readLabels_7 n7) n95 v1 v2 v3 v4 S = some (r, S9) → jw X 0 0 (moL D g S) [(0, .ref (g 0)), (1, .int (ii v1)), (2, .int (ii v2)), (3, .int (ii v3)), (4, .int (ii v4))] 95 [] := by
        intro n95
        induction n95 with
        | zero =>
          intro v1 v2 v3 v4 S hs
          rw [q_Mo_readLabels_95] at hs; cases hs
        | succ n95 ih95 =>
          have B_142 : ∀ (v1 : Int) (v2 : Int) (v4 : Int) (t0 : Int) (S : MS), q_Mo_readLabels_142 (q_Mo_readLabels_7 n7) (q_Mo_readLabels_95 (q_Mo_readLabels_7 n7) n95) v1 v2 v4 t0 S = some (r, S9) → jw X 0 0 (moL D g S) [(0, .ref (g 0)), (1, .int (ii v1)), (2, .int (ii v2)), (4, .int (ii v4))] 142 [.int (ii t0)] := by
            intro v1 v2 v4 t0 S hs
            rw [q_Mo_readLabels_142] at hs
            refine jr_istore_n [(3, .int (ii t0)), (0, .ref (g 0)), (1, .int (ii v1)), (2, .int (ii v2)), (4, .int (ii v4))] ok d_Mo_readLabels_142 rfl (by rw [hN]; decide) rfl ?_
            refine jr_iinc [(4, .int (ii (v4 + 1))), (3, .int (ii t0)), (0, .ref (g 0)), (1, .int (ii v1)), (2, .int (ii v2))] 4 ok d_Mo_readLabels_143 rfl (by rw [hN]; decide) rfl ?_
            refine jr_goto 95 ok d_Mo_readLabels_146 (by decide) ?_
            exact jr_lv [2, 3, 4, 1, 0] rfl (ih95 v1 v2 t0 (v4 + 1) S hs)
          have B_137 : ∀ (v1 : Int) (v2 : Int) (v4 : Int) (S : MS), q_Mo_readLabels_137 (q_Mo_readLabels_7 n7) (q_Mo_readLabels_95 (q_Mo_readLabels_7 n7) n95) v1 v2 v4 S = some (r, S9) → jw X 0 0 (moL D g S) [(0, .ref (g 0)), (1, .int (ii v1)), (2, .int (ii v2)), (4, .int (ii v4))] 137 [] := by
            intro v1 v2 v4 S hs
            rw [q_Mo_readLabels_137] at hs
            refine jr_iconst ok d_Mo_readLabels_137 ?_
            refine jr_goto 142 ok d_Mo_readLabels_138 (by decide) ?_
            exact jr_lv [0, 1, 2, 3] rfl (B_142 v1 v2 v4 1 S hs)
          intro v1 v2 v3 v4 S hs
          rw [q_Mo_readLabels_95] at hs
          refine jr_iload ok 4 d_Mo_readLabels_95 rfl ?_
          refine jr_aload_n ok 0 d_Mo_readLabels_97 rfl rfl ?_
          refine jr_get (v := .int (ii S.m_labelCount)) ok 0 f_Mo_118 rfl rfl d_Mo_readLabels_98 ?_
          refine jr_wicmp_ge 149 ok rfl rfl d_Mo_readLabels_101 (by decide) (fun c49 => ?_) (fun c49 => ?_)
          · replace hs := oq_pos c49 hs
            refine jr_iload_n ok 3 d_Mo_readLabels_149 rfl rfl ?_
            refine jr_wif_eq 161 ok rfl d_Mo_readLabels_150 (by decide) (fun c50 => ?_) (fun c50 => ?_)
            · replace hs := oq_pos c50 hs
              refine jr_iload_n ok 1 d_Mo_readLabels_161 rfl rfl ?_
              refine jr_iload_n ok 2 d_Mo_readLabels_162 rfl rfl ?_
              refine jr_iadd ok d_Mo_readLabels_163 ?_
              refine jr_iconst ok d_Mo_readLabels_164 ?_
              refine jr_iadd ok d_Mo_readLabels_165 ?_
              refine jr_istore [(4, .int (ii ((v1 + v2) + 1))), (0, .ref (g 0)), (1, .int (ii v1)), (2, .int (ii v2)), (3, .int (ii v3))] ok d_Mo_readLabels_166 (by rw [hN]; decide) rfl ?_
              refine jr_aload_n ok 1 d_Mo_readLabels_168 rfl rfl ?_
              refine jr_iload ok 0 d_Mo_readLabels_169 rfl ?_
              obtain ⟨r51, S51, hc51, hs⟩ := mb2_some hs
              refine jr_mV1 ok hR m_Mo_121 (c_Mo_wordLength (jx_l X) D g S ((v1 + v2) + 1) r51 S51 hc51) rfl rfl rfl rfl (Nat.le_of_ble_eq_true rfl) ⟨Nat.le_of_ble_eq_true rfl, Nat.le_of_ble_eq_true rfl⟩ ⟨Nat.zero_le _, Nat.zero_le _⟩ d_Mo_readLabels_171 ?_
              refine jr_istore [(5, .int (ii r51)), (4, .int (ii ((v1 + v2) + 1))), (0, .ref (g 0)), (1, .int (ii v1)), (2, .int (ii v2)), (3, .int (ii v3))] ok d_Mo_readLabels_174 (by rw [hN]; decide) rfl ?_
              refine jr_iload ok 0 d_Mo_readLabels_176 rfl ?_
              refine jr_wif_eq 188 ok rfl d_Mo_readLabels_178 (by decide) (fun c52 => ?_) (fun c52 => ?_)
              · replace hs := oq_pos c52 hs
                exact jr_lv [2, 1, 0] rfl (B_188 ((v1 + v2) + 1) r51 S51 hs)
              · replace hs := oq_neg c52 hs
                refine jr_iload ok 0 d_Mo_readLabels_181 rfl ?_
                refine jr_bipush ok d_Mo_readLabels_183 (by decide +kernel) ?_
                refine jr_wicmp_le 211 ok rfl (show w32 24 = 24 by decide) d_Mo_readLabels_185 (by decide) (fun c53 => ?_) (fun c53 => ?_)
                · replace hs := oq_pos c53 hs
                  refine jr_aload_n ok 2 d_Mo_readLabels_211 rfl rfl ?_
                  refine jr_get (v := .ref (g 9)) ok 0 f_Mo_38 rfl rfl d_Mo_readLabels_212 ?_
                  refine jr_iconst ok d_Mo_readLabels_215 ?_
                  refine jr_aload_n ok 2 d_Mo_readLabels_216 rfl rfl ?_
                  refine jr_get (v := .int (ii S51.m_labelCount)) ok 0 f_Mo_118 rfl rfl d_Mo_readLabels_217 ?_
                  refine jr_imul ok d_Mo_readLabels_220 ?_
                  refine jr_iload_n ok 3 d_Mo_readLabels_221 rfl rfl ?_
                  obtain ⟨hb54, hs⟩ := oq_if hs
                  refine jr_iast (moL D g (MS.w_m_labels S51 (aU S51.m_labels (4 * S51.m_labelCount) v1))) ok 9 rfl rfl hb54.1 hb54.2  rfl d_Mo_readLabels_222 ?_
                  refine jr_aload_n ok 2 d_Mo_readLabels_223 rfl rfl ?_
                  refine jr_get (v := .ref (g 9)) ok 0 f_Mo_38 rfl rfl d_Mo_readLabels_224 ?_
                  refine jr_iconst ok d_Mo_readLabels_227 ?_
                  refine jr_aload_n ok 2 d_Mo_readLabels_228 rfl rfl ?_
                  refine jr_get (v := .int (ii S51.m_labelCount)) ok 0 f_Mo_118 rfl rfl d_Mo_readLabels_229 ?_
                  refine jr_imul ok d_Mo_readLabels_232 ?_
                  refine jr_iconst ok d_Mo_readLabels_233 ?_
                  refine jr_iadd ok d_Mo_readLabels_234 ?_
                  refine jr_iload_n ok 4 d_Mo_readLabels_235 rfl rfl ?_
                  obtain ⟨hb55, hs⟩ := oq_if hs
                  refine jr_iast (moL D g (MS.w_m_labels S51 (aU (aU S51.m_labels (4 * S51.m_labelCount) v1) ((4 * S51.m_labelCount) + 1) v2))) ok 9 rfl rfl hb55.1 hb55.2  rfl d_Mo_readLabels_236 ?_
                  refine jr_aload_n ok 2 d_Mo_readLabels_237 rfl rfl ?_
                  refine jr_get (v := .ref (g 9)) ok 0 f_Mo_38 rfl rfl d_Mo_readLabels_238 ?_
                  refine jr_iconst ok d_Mo_readLabels_241 ?_
                  refine jr_aload_n ok 2 d_Mo_readLabels_242 rfl rfl ?_
                  refine jr_get (v := .int (ii S51.m_labelCount)) ok 0 f_Mo_118 rfl rfl d_Mo_readLabels_243 ?_
                  refine jr_imul ok d_Mo_readLabels_246 ?_
                  refine jr_iconst ok d_Mo_readLabels_247 ?_
                  refine jr_iadd ok d_Mo_readLabels_248 ?_
                  refine jr_iload ok 1 d_Mo_readLabels_249 rfl ?_
                  obtain ⟨hb56, hs⟩ := oq_if hs
                  refine jr_iast (moL D g (MS.w_m_labels S51 (aU (aU (aU S51.m_labels (4 * S51.m_labelCount) v1) ((4 * S51.m_labelCount) + 1) v2) ((4 * S51.m_labelCount) + 2) ((v1 + v2) + 1)))) ok 9 rfl rfl hb56.1 hb56.2  rfl d_Mo_readLabels_251 ?_
                  refine jr_aload_n ok 2 d_Mo_readLabels_252 rfl rfl ?_
                  refine jr_get (v := .ref (g 9)) ok 0 f_Mo_38 rfl rfl d_Mo_readLabels_253 ?_
                  refine jr_iconst ok d_Mo_readLabels_256 ?_
                  refine jr_aload_n ok 2 d_Mo_readLabels_257 rfl rfl ?_
                  refine jr_get (v := .int (ii S51.m_labelCount)) ok 0 f_Mo_118 rfl rfl d_Mo_readLabels_258 ?_
                  refine jr_imul ok d_Mo_readLabels_261 ?_
                  refine jr_iconst ok d_Mo_readLabels_262 ?_
                  refine jr_iadd ok d_Mo_readLabels_263 ?_
                  refine jr_iload ok 0 d_Mo_readLabels_264 rfl ?_
                  obtain ⟨hb57, hs⟩ := oq_if hs
                  refine jr_iast (moL D g (MS.w_m_labels S51 (aU (aU (aU (aU S51.m_labels (4 * S51.m_labelCount) v1) ((4 * S51.m_labelCount) + 1) v2) ((4 * S51.m_labelCount) + 2) ((v1 + v2) + 1)) ((4 * S51.m_labelCount) + 3) r51))) ok 9 rfl rfl hb57.1 hb57.2  rfl d_Mo_readLabels_266 ?_
                  refine jr_aload_n ok 2 d_Mo_readLabels_267 rfl rfl ?_
                  refine jr_dup rfl ok d_Mo_readLabels_268 ?_
                  refine jr_get (v := .int (ii S51.m_labelCount)) ok 0 f_Mo_118 rfl rfl d_Mo_readLabels_269 ?_
                  refine jr_iconst ok d_Mo_readLabels_272 ?_
                  refine jr_iadd ok d_Mo_readLabels_273 ?_
                  refine jr_put (moL D g (MS.w_m_labelCount (MS.w_m_labels S51 (aU (aU (aU (aU S51.m_labels (4 * S51.m_labelCount) v1) ((4 * S51.m_labelCount) + 1) v2) ((4 * S51.m_labelCount) + 2) ((v1 + v2) + 1)) ((4 * S51.m_labelCount) + 3) r51)) (S51.m_labelCount + 1))) ok 0 f_Mo_118 rfl rfl rfl (Nat.le_of_ble_eq_true rfl) rfl d_Mo_readLabels_274 ?_
                  refine jr_iload ok 1 d_Mo_readLabels_277 rfl ?_
                  refine jr_iload ok 0 d_Mo_readLabels_279 rfl ?_
                  refine jr_iadd ok d_Mo_readLabels_281 ?_
                  refine jr_istore_n [(1, .int (ii (((v1 + v2) + 1) + r51))), (5, .int (ii r51)), (4, .int (ii ((v1 + v2) + 1))), (0, .ref (g 0)), (2, .int (ii v2)), (3, .int (ii v3))] ok d_Mo_readLabels_282 rfl (by rw [hN]; decide) rfl ?_
                  refine jr_iload_n ok 0 d_Mo_readLabels_283 rfl rfl ?_
                  refine jr_aload_n ok 3 d_Mo_readLabels_284 rfl rfl ?_
                  refine jr_get (v := .int (ii S51.m_length)) ok 0 f_Mo_105 rfl rfl d_Mo_readLabels_285 ?_
                  refine jr_wicmp_ne 293 ok rfl rfl d_Mo_readLabels_288 (by decide) (fun c58 => ?_) (fun c58 => ?_)
                  · replace hs := oq_neg c58 hs
                    refine jr_aload_n ok 3 d_Mo_readLabels_293 rfl rfl ?_
                    refine jr_get (v := .ref (g 1)) ok 0 f_Mo_8 rfl rfl d_Mo_readLabels_294 ?_
                    refine jr_iload_n ok 0 d_Mo_readLabels_297 rfl rfl ?_
                    obtain ⟨hb59, hs⟩ := oq_if hs
                    refine jr_bald ok 1 rfl rfl hb59.1 hb59.2 d_Mo_readLabels_298 ?_
                    show jw X 0 0 (moL D g (MS.w_m_labelCount (MS.w_m_labels S51 (aU (aU (aU (aU S51.m_labels (4 * S51.m_labelCount) v1) ((4 * S51.m_labelCount) + 1) v2) ((4 * S51.m_labelCount) + 2) ((v1 + v2) + 1)) ((4 * S51.m_labelCount) + 3) r51)) (S51.m_labelCount + 1))) [(1, .int (ii (((v1 + v2) + 1) + r51))), (5, .int (ii r51)), (4, .int (ii ((v1 + v2) + 1))), (0, .ref (g 0)), (2, .int (ii v2)), (3, .int (ii v3))] 299 [.int (ii (S51.m_tape (((v1 + v2) + 1) + r51)))]
                    refine jr_bipush ok d_Mo_readLabels_299 (by decide +kernel) ?_
                    refine jr_wicmp_eq 312 ok rfl (show w32 44 = 44 by decide) d_Mo_readLabels_301 (by decide) (fun c60 => ?_) (fun c60 => ?_)
                    · replace hs := oq_pos c60 hs
                      refine jr_iinc [(1, .int (ii ((((v1 + v2) + 1) + r51) + 1))), (5, .int (ii r51)), (4, .int (ii ((v1 + v2) + 1))), (0, .ref (g 0)), (2, .int (ii v2)), (3, .int (ii v3))] 0 ok d_Mo_readLabels_312 rfl (by rw [hN]; decide) rfl ?_
                      refine jr_goto 7 ok d_Mo_readLabels_315 (by decide) ?_
                      exact jr_lv [3, 0] rfl (ih7 ((((v1 + v2) + 1) + r51) + 1) (MS.w_m_labelCount (MS.w_m_labels S51 (aU (aU (aU (aU S51.m_labels (4 * S51.m_labelCount) v1) ((4 * S51.m_labelCount) + 1) v2) ((4 * S51.m_labelCount) + 2) ((v1 + v2) + 1)) ((4 * S51.m_labelCount) + 3) r51)) (S51.m_labelCount + 1)) hs)
                    · replace hs := oq_neg c60 hs
                      refine jr_aload_n ok 3 d_Mo_readLabels_304 rfl rfl ?_
                      refine jr_bipush ok d_Mo_readLabels_305 (by decide +kernel) ?_
                      refine jr_iload_n ok 0 d_Mo_readLabels_307 rfl rfl ?_
                      obtain ⟨r61, S61, hc61, hs⟩ := mb2_some hs
                      refine jr_mV1 ok hR m_Mo_125 (c_Mo_flaw (jx_l X) D g (MS.w_m_labelCount (MS.w_m_labels S51 (aU (aU (aU (aU S51.m_labels (4 * S51.m_labelCount) v1) ((4 * S51.m_labelCount) + 1) v2) ((4 * S51.m_labelCount) + 2) ((v1 + v2) + 1)) ((4 * S51.m_labelCount) + 3) r51)) (S51.m_labelCount + 1)) 7 (((v1 + v2) + 1) + r51) r61 S61 hc61) rfl rfl rfl rfl (Nat.le_of_ble_eq_true rfl) ⟨Nat.le_of_ble_eq_true rfl, Nat.le_of_ble_eq_true rfl⟩ ⟨Nat.zero_le _, Nat.zero_le _⟩ d_Mo_readLabels_308 ?_
                      obtain ⟨hb62, hs⟩ := oq_if hs
                      exact jm_zret (Lf := moL D g) ok (nz_b hb62) fin hs d_Mo_readLabels_311
                  · replace hs := oq_pos c58 hs
                    refine jr_iconst ok d_Mo_readLabels_291 ?_
                    exact jm_zret (Lf := moL D g) ok (by decide +kernel) fin hs d_Mo_readLabels_292
                · replace hs := oq_neg c53 hs
                  exact jr_lv [2, 1, 0] rfl (B_188 ((v1 + v2) + 1) r51 S51 hs)
            · replace hs := oq_neg c50 hs
              refine jr_aload_n ok 0 d_Mo_readLabels_153 rfl rfl ?_
              refine jr_bipush ok d_Mo_readLabels_154 (by decide +kernel) ?_
              refine jr_iload_n ok 1 d_Mo_readLabels_156 rfl rfl ?_
              obtain ⟨r63, S63, hc63, hs⟩ := mb2_some hs
              refine jr_mV1 ok hR m_Mo_125 (c_Mo_flaw (jx_l X) D g S 8 v1 r63 S63 hc63) rfl rfl rfl rfl (Nat.le_of_ble_eq_true rfl) ⟨Nat.le_of_ble_eq_true rfl, Nat.le_of_ble_eq_true rfl⟩ ⟨Nat.zero_le _, Nat.zero_le _⟩ d_Mo_readLabels_157 ?_
              obtain ⟨hb64, hs⟩ := oq_if hs
              exact jm_zret (Lf := moL D g) ok (nz_b hb64) fin hs d_Mo_readLabels_160
          · replace hs := oq_neg c49 hs
            refine jr_iload_n ok 3 d_Mo_readLabels_104 rfl rfl ?_
            refine jr_wif_ne 137 ok rfl d_Mo_readLabels_105 (by decide) (fun c65 => ?_) (fun c65 => ?_)
            · replace hs := oq_neg c65 hs
              exact jr_lv [0, 1, 2, 4] rfl (B_137 v1 v2 v4 S hs)
            · replace hs := oq_pos c65 hs
              refine jr_aload_n ok 0 d_Mo_readLabels_108 rfl rfl ?_
              refine jr_aload_n ok 0 d_Mo_readLabels_109 rfl rfl ?_
              refine jr_get (v := .ref (g 9)) ok 0 f_Mo_38 rfl rfl d_Mo_readLabels_110 ?_
              refine jr_iconst ok d_Mo_readLabels_113 ?_
              refine jr_iload ok 4 d_Mo_readLabels_114 rfl ?_
              refine jr_imul ok d_Mo_readLabels_116 ?_
              obtain ⟨hb66, hs⟩ := oq_if hs
              refine jr_iald ok 9 rfl rfl hb66.1 hb66.2 d_Mo_readLabels_117 ?_
              refine jr_aload_n ok 0 d_Mo_readLabels_118 rfl rfl ?_
              refine jr_get (v := .ref (g 9)) ok 0 f_Mo_38 rfl rfl d_Mo_readLabels_119 ?_
              refine jr_iconst ok d_Mo_readLabels_122 ?_
              refine jr_iload ok 4 d_Mo_readLabels_123 rfl ?_
              refine jr_imul ok d_Mo_readLabels_125 ?_
              refine jr_iconst ok d_Mo_readLabels_126 ?_
              refine jr_iadd ok d_Mo_readLabels_127 ?_
              obtain ⟨hb67, hs⟩ := oq_if hs
              refine jr_iald ok 9 rfl rfl hb67.1 hb67.2 d_Mo_readLabels_128 ?_
              refine jr_iload_n ok 1 d_Mo_readLabels_129 rfl rfl ?_
              refine jr_iload_n ok 2 d_Mo_readLabels_130 rfl rfl ?_
              obtain ⟨r68, S68, hc68, hs⟩ := mb2_some hs
              refine jr_mV1 ok hR m_Mo_129 (c_Mo_compare (jx_l X) D g S (S.m_labels (4 * v4)) (S.m_labels ((4 * v4) + 1)) v1 v2 r68 S68 hc68) rfl rfl rfl rfl (Nat.le_of_ble_eq_true rfl) ⟨Nat.le_of_ble_eq_true rfl, Nat.le_of_ble_eq_true rfl⟩ ⟨Nat.zero_le _, Nat.zero_le _⟩ d_Mo_readLabels_131 ?_
              refine jr_wif_ne 141 ok rfl d_Mo_readLabels_134 (by decide) (fun c69 => ?_) (fun c69 => ?_)
              · replace hs := oq_neg c69 hs
                refine jr_iconst ok d_Mo_readLabels_141 ?_
                exact jr_lv [0, 1, 2, 4] rfl (B_142 v1 v2 v4 0 S68 hs)
              · replace hs := oq_pos c69 hs
                exact jr_lv [0, 1, 2, 4] rfl (B_137 v1 v2 v4 S68 hs)
      have B_91 : ∀ (v1 : Int) (v2 : Int) (t0 : Int) (S : MS), q_Mo_readLabels_91 (q_Mo_readLabels_7 n7) v1 v2 t0 S = some (r, S9) → jw X 0 0 (moL D g S) [(0, .ref (g 0)), (1, .int (ii v1)), (2, .int (ii v2))] 91 [.int (ii t0)] := by
        intro v1 v2 t0 S hs
        rw [q_Mo_readLabels_91] at hs
        refine jr_istore_n [(3, .int (ii t0)), (0, .ref (g 0)), (1, .int (ii v1)), (2, .int (ii v2))] ok d_Mo_readLabels_91 rfl (by rw [hN]; decide) rfl ?_
        refine jr_iconst ok d_Mo_readLabels_92 ?_
        refine jr_istore [(4, .int (ii 0)), (3, .int (ii t0)), (0, .ref (g 0)), (1, .int (ii v1)), (2, .int (ii v2))] ok d_Mo_readLabels_93 (by rw [hN]; decide) rfl ?_
        exact jr_lv [2, 3, 4, 1, 0] rfl (B_95 fU v1 v2 t0 0 S hs)
      intro v1 S hs
      rw [q_Mo_readLabels_7] at hs
      refine jr_aload_n ok 0 d_Mo_readLabels_7 rfl rfl ?_
      refine jr_iload_n ok 1 d_Mo_readLabels_8 rfl rfl ?_
      obtain ⟨r37, S37, hc37, hs⟩ := mb2_some hs
      refine jr_mV1 ok hR m_Mo_121 (c_Mo_wordLength (jx_l X) D g S v1 r37 S37 hc37) rfl rfl rfl rfl (Nat.le_of_ble_eq_true rfl) ⟨Nat.le_of_ble_eq_true rfl, Nat.le_of_ble_eq_true rfl⟩ ⟨Nat.zero_le _, Nat.zero_le _⟩ d_Mo_readLabels_9 ?_
      refine jr_istore_n [(2, .int (ii r37)), (0, .ref (g 0)), (1, .int (ii v1))] ok d_Mo_readLabels_12 rfl (by rw [hN]; decide) rfl ?_
      refine jr_iload_n ok 0 d_Mo_readLabels_13 rfl rfl ?_
      refine jr_wif_eq 23 ok rfl d_Mo_readLabels_14 (by decide) (fun c38 => ?_) (fun c38 => ?_)
      · replace hs := oq_pos c38 hs
        exact jr_lv [1, 2, 0] rfl (B_23 v1 r37 S37 hs)
      · replace hs := oq_neg c38 hs
        refine jr_iload_n ok 0 d_Mo_readLabels_17 rfl rfl ?_
        refine jr_bipush ok d_Mo_readLabels_18 (by decide +kernel) ?_
        refine jr_wicmp_le 44 ok rfl (show w32 24 = 24 by decide) d_Mo_readLabels_20 (by decide) (fun c39 => ?_) (fun c39 => ?_)
        · replace hs := oq_pos c39 hs
          refine jr_iload_n ok 2 d_Mo_readLabels_44 rfl rfl ?_
          refine jr_iload_n ok 0 d_Mo_readLabels_45 rfl rfl ?_
          refine jr_iadd ok d_Mo_readLabels_46 ?_
          refine jr_aload_n ok 1 d_Mo_readLabels_47 rfl rfl ?_
          refine jr_get (v := .int (ii S37.m_length)) ok 0 f_Mo_105 rfl rfl d_Mo_readLabels_48 ?_
          refine jr_wicmp_ge 67 ok rfl rfl d_Mo_readLabels_51 (by decide) (fun c40 => ?_) (fun c40 => ?_)
          · replace hs := oq_pos c40 hs
            exact jr_lv [1, 2, 0] rfl (B_67 v1 r37 S37 hs)
          · replace hs := oq_neg c40 hs
            refine jr_aload_n ok 1 d_Mo_readLabels_54 rfl rfl ?_
            refine jr_get (v := .ref (g 1)) ok 0 f_Mo_8 rfl rfl d_Mo_readLabels_55 ?_
            refine jr_iload_n ok 2 d_Mo_readLabels_58 rfl rfl ?_
            refine jr_iload_n ok 0 d_Mo_readLabels_59 rfl rfl ?_
            refine jr_iadd ok d_Mo_readLabels_60 ?_
            obtain ⟨hb41, hs⟩ := oq_if hs
            refine jr_bald ok 1 rfl rfl hb41.1 hb41.2 d_Mo_readLabels_61 ?_
            refine jr_bipush ok d_Mo_readLabels_62 (by decide +kernel) ?_
            refine jr_wicmp_eq 77 ok rfl (show w32 61 = 61 by decide) d_Mo_readLabels_64 (by decide) (fun c42 => ?_) (fun c42 => ?_)
            · replace hs := oq_pos c42 hs
              refine jr_aload_n ok 1 d_Mo_readLabels_77 rfl rfl ?_
              refine jr_get (v := .int (ii S37.m_labelCount)) ok 0 f_Mo_118 rfl rfl d_Mo_readLabels_78 ?_
              refine jr_bipush ok d_Mo_readLabels_81 (by decide +kernel) ?_
              refine jr_wicmp_ne 90 ok rfl (show w32 6 = 6 by decide) d_Mo_readLabels_83 (by decide) (fun c43 => ?_) (fun c43 => ?_)
              · replace hs := oq_neg c43 hs
                refine jr_iconst ok d_Mo_readLabels_90 ?_
                exact jr_lv [1, 2, 0] rfl (B_91 v1 r37 0 S37 hs)
              · replace hs := oq_pos c43 hs
                refine jr_iconst ok d_Mo_readLabels_86 ?_
                refine jr_goto 91 ok d_Mo_readLabels_87 (by decide) ?_
                exact jr_lv [1, 2, 0] rfl (B_91 v1 r37 1 S37 hs)
            · replace hs := oq_neg c42 hs
              exact jr_lv [1, 2, 0] rfl (B_67 v1 r37 S37 hs)
        · replace hs := oq_neg c39 hs
          exact jr_lv [1, 2, 0] rfl (B_23 v1 r37 S37 hs)
  show jw X 0 0 (moL D g S) [(0, .ref (g 0))] 0 []
  rw [s_Mo_readLabels] at hs
  refine jr_aload_n ok 0 d_Mo_readLabels_0 rfl rfl ?_
  refine jr_iconst ok d_Mo_readLabels_1 ?_
  refine jr_put (moL D g (MS.w_m_labelCount S 0)) ok 0 f_Mo_118 rfl rfl rfl (Nat.le_of_ble_eq_true rfl) rfl d_Mo_readLabels_2 ?_
  refine jr_iconst ok d_Mo_readLabels_5 ?_
  refine jr_istore_n [(1, .int (ii 0)), (0, .ref (g 0))] ok d_Mo_readLabels_6 rfl (by rw [hN]; decide) rfl ?_
  exact jr_lv [1, 0] rfl (B_7 fU 0 (MS.w_m_labelCount S 0) hs)

def q_Mo_group_260 : Nat → Int → Int → MS → Option (Unit × MS)
  | 0, _, _, _ => none
  | n + 1, v1, v3, S => if (0 : Int) ≤ v1 ∧ v1 < (20 : Int) then if w32 ((S.m_tableRows v1) * S.m_windows) ≤ w32 v3 then some ((), S) else if (0 : Int) ≤ v1 ∧ v1 < (21 : Int) then if (0 : Int) ≤ ((S.m_starts v1) + v3) ∧ ((S.m_starts v1) + v3) < (327680 : Int) then if (0 : Int) ≤ v1 ∧ v1 < (21 : Int) then if (0 : Int) ≤ ((S.m_starts v1) + v3) ∧ ((S.m_starts v1) + v3) < (327680 : Int) then (q_Mo_group_260 n) v1 (v3 + 1) (MS.w_m_cells (MS.w_m_isCell S (aU S.m_isCell ((S.m_starts v1) + v3) 0)) (aU S.m_cells ((S.m_starts v1) + v3) (ll 0))) else none else none else none else none else none

def q_Mo_group_252 (k9 : Int → Int → Int → MS → Option (Unit × MS)) (v1 : Int) (v2 : Int) (v3 : Int) (S : MS) : Option (Unit × MS) := k9 v1 v2 (v3 + 1) S

def q_Mo_group_244 (k9 : Int → Int → Int → MS → Option (Unit × MS)) (v1 : Int) (v2 : Int) (v3 : Int) (v4 : Int) (S : MS) : Option (Unit × MS) := if (0 : Int) ≤ v3 ∧ v3 < (256 : Int) then q_Mo_group_252 k9 v1 v2 v3 (MS.w_m_rowOf S (aU S.m_rowOf v3 v4)) else none

def q_Mo_group_213 (k9 : Int → Int → Int → MS → Option (Unit × MS)) (k170 : Int → Int → Int → Int → Int → MS → Option (Unit × MS)) (v1 : Int) (v2 : Int) (v3 : Int) (v4 : Int) (v5 : Int) (t0 : Int) (t1 : Int) (S : MS) : Option (Unit × MS) := if (0 : Int) ≤ t1 ∧ t1 < (256 : Int) then k170 v1 v2 v3 v4 (v5 + 1) (MS.w_m_rowOf S (aU S.m_rowOf t1 t0)) else none

def q_Mo_group_170 (k9 : Int → Int → Int → MS → Option (Unit × MS)) : Nat → Int → Int → Int → Int → Int → MS → Option (Unit × MS)
  | 0, _, _, _, _, _, _ => none
  | n + 1, v1, v2, v3, v4, v5, S => if w32 v3 ≤ w32 v5 then if (0 : Int) ≤ ((256 * v1) + v4) ∧ ((256 * v1) + v4) < (5120 : Int) then if (0 : Int) ≤ v1 ∧ v1 < (20 : Int) then if (0 : Int) ≤ v1 ∧ v1 < (20 : Int) then q_Mo_group_244 k9 v1 v2 v3 v4 (MS.w_m_tableRows (MS.w_m_rowSeries S (aU S.m_rowSeries ((256 * v1) + v4) v3)) (aU S.m_tableRows v1 ((S.m_tableRows v1) + 1))) else none else none else none else if (0 : Int) ≤ v5 ∧ v5 < (256 : Int) then if w32 (S.m_rowOf v5) < w32 v4 then if (0 : Int) ≤ v5 ∧ v5 < (256 : Int) then q_Mo_group_213 k9 (q_Mo_group_170 k9 n) v1 v2 v3 v4 v5 (S.m_rowOf v5) v5 S else none else if (0 : Int) ≤ v5 ∧ v5 < (256 : Int) then q_Mo_group_213 k9 (q_Mo_group_170 k9 n) v1 v2 v3 v4 v5 ((S.m_rowOf v5) + 1) v5 S else none else none

def q_Mo_group_126 (k9 : Int → Int → Int → MS → Option (Unit × MS)) : Nat → Int → Int → Int → Int → Int → MS → Option (Unit × MS)
  | 0, _, _, _, _, _, _ => none
  | n + 1, v1, v2, v3, v4, v5, S => if w32 v5 ≤ w32 v4 then q_Mo_group_170 k9 fU v1 v2 v3 v4 0 S else if (0 : Int) ≤ (((256 * v1) + v5) - 1) ∧ (((256 * v1) + v5) - 1) < (5120 : Int) then if (0 : Int) ≤ ((256 * v1) + v5) ∧ ((256 * v1) + v5) < (5120 : Int) then (q_Mo_group_126 k9 n) v1 v2 v3 v4 (v5 + (-1)) (MS.w_m_rowSeries S (aU S.m_rowSeries ((256 * v1) + v5) (S.m_rowSeries (((256 * v1) + v5) - 1)))) else none else none

def q_Mo_group_118 (k9 : Int → Int → Int → MS → Option (Unit × MS)) (v1 : Int) (v2 : Int) (v3 : Int) (v4 : Int) (S : MS) : Option (Unit × MS) := if (0 : Int) ≤ v1 ∧ v1 < (20 : Int) then q_Mo_group_126 k9 fU v1 v2 v3 v4 (S.m_tableRows v1) S else none

def q_Mo_group_85 (k9 : Int → Int → Int → MS → Option (Unit × MS)) (v1 : Int) (v2 : Int) (v3 : Int) (v4 : Int) (S : MS) : Option (Unit × MS) := if (0 : Int) ≤ v1 ∧ v1 < (20 : Int) then if w32 v4 = w32 (S.m_tableRows v1) then q_Mo_group_118 k9 v1 v2 v3 v4 S else if (0 : Int) ≤ ((256 * v1) + v4) ∧ ((256 * v1) + v4) < (5120 : Int) then mb2 (s_Mo_compareRows S v1 (S.m_rowSeries ((256 * v1) + v4)) v3) (fun r50 S50 => if w32 r50 ≤ 0 then q_Mo_group_244 k9 v1 v2 v3 v4 S50 else q_Mo_group_118 k9 v1 v2 v3 v4 S50) else none else none

def q_Mo_group_46 (k9 : Int → Int → Int → MS → Option (Unit × MS)) : Nat → Int → Int → Int → Int → MS → Option (Unit × MS)
  | 0, _, _, _, _, _ => none
  | n + 1, v1, v2, v3, v4, S => if (0 : Int) ≤ v1 ∧ v1 < (20 : Int) then if w32 (S.m_tableRows v1) ≤ w32 v4 then q_Mo_group_85 k9 v1 v2 v3 v4 S else if (0 : Int) ≤ ((256 * v1) + v4) ∧ ((256 * v1) + v4) < (5120 : Int) then mb2 (s_Mo_compareRows S v1 (S.m_rowSeries ((256 * v1) + v4)) v3) (fun r45 S45 => if 0 ≤ w32 r45 then q_Mo_group_85 k9 v1 v2 v3 v4 S45 else (q_Mo_group_46 k9 n) v1 v2 v3 (v4 + 1) S45) else none else none

def q_Mo_group_9 : Nat → Int → Int → Int → MS → Option (Unit × MS)
  | 0, _, _, _, _ => none
  | n + 1, v1, v2, v3, S => if w32 S.m_seriesCount ≤ w32 v3 then q_Mo_group_260 fU v1 0 S else if (0 : Int) ≤ v3 ∧ v3 < (256 : Int) then if (0 : Int) ≤ v3 ∧ v3 < (256 : Int) then mb2 (s_Mo_matches (MS.w_m_hasBefore (MS.w_m_rowOf S (aU S.m_rowOf v3 (-1))) (aU S.m_hasBefore v3 0)) v3 v2) (fun r40 S40 => if w32 r40 = 0 then q_Mo_group_252 (q_Mo_group_9 n) v1 v2 v3 S40 else q_Mo_group_46 (q_Mo_group_9 n) fU v1 v2 v3 0 S40) else none else none

def s_Mo_group (S : MS) (v1 : Int) (v2 : Int) : Option (Unit × MS) := if (0 : Int) ≤ v1 ∧ v1 < (20 : Int) then q_Mo_group_9 fU v1 v2 0 (MS.w_m_tableRows S (aU S.m_tableRows v1 0)) else none
set_option maxHeartbeats 4000000 in
set_option maxRecDepth 100000 in
theorem c_Mo_group (l : Launch) (D : jd_T) (g : Nat → Nat) (S : MS) (v1 : Int) (v2 : Int) (r : Unit) (S9 : MS) (hs : s_Mo_group S v1 v2 = some (r, S9)) : jc_C l D y_Mo_group b_Mo_group 6 none { frames := 2, cells := 0, slots := 0, locals := 61 } [.ref (g 0), .int (ii v1), .int (ii v2)] (moL D g S) (fun _ : Unit => (.returned (none), True, (moL D g S9))) := by
  refine jc_of rfl (Nat.le_of_ble_eq_true rfl) ?_
  intro X hl hR hN ok hnm fin
  subst hl
  have B_260 : ∀ (n260 : Nat), ∀ (v1 : Int) (v3 : Int) (S : MS), q_Mo_group_260 n260 v1 v3 S = some (r, S9) → jw X 0 0 (moL D g S) [(0, .ref (g 0)), (1, .int (ii v1)), (3, .int (ii v3))] 260 [] := by
    intro n260
    induction n260 with
    | zero =>
      intro v1 v3 S hs
      rw [q_Mo_group_260] at hs; cases hs
    | succ n260 ih260 =>
      intro v1 v3 S hs
      rw [q_Mo_group_260] at hs
      refine jr_iload_n ok 2 d_Mo_group_260 rfl rfl ?_
      refine jr_aload_n ok 0 d_Mo_group_261 rfl rfl ?_
      refine jr_get (v := .ref (g 13)) ok 0 f_Mo_50 rfl rfl d_Mo_group_262 ?_
      refine jr_iload_n ok 1 d_Mo_group_265 rfl rfl ?_
      obtain ⟨hb66, hs⟩ := oq_if hs
      refine jr_iald ok 13 rfl rfl hb66.1 hb66.2 d_Mo_group_266 ?_
      refine jr_aload_n ok 0 d_Mo_group_267 rfl rfl ?_
      refine jr_get (v := .int (ii S.m_windows)) ok 0 f_Mo_234 rfl rfl d_Mo_group_268 ?_
      refine jr_imul ok d_Mo_group_271 ?_
      refine jr_wicmp_ge 309 ok rfl rfl d_Mo_group_272 (by decide) (fun c67 => ?_) (fun c67 => ?_)
      · replace hs := oq_pos c67 hs
        exact jm_vret (Lf := moL D g) ok fin hs d_Mo_group_309
      · replace hs := oq_neg c67 hs
        refine jr_aload_n ok 0 d_Mo_group_275 rfl rfl ?_
        refine jr_get (v := .ref (g 16)) ok 0 f_Mo_60 rfl rfl d_Mo_group_276 ?_
        refine jr_aload_n ok 0 d_Mo_group_279 rfl rfl ?_
        refine jr_get (v := .ref (g 17)) ok 0 f_Mo_64 rfl rfl d_Mo_group_280 ?_
        refine jr_iload_n ok 1 d_Mo_group_283 rfl rfl ?_
        obtain ⟨hb68, hs⟩ := oq_if hs
        refine jr_iald ok 17 rfl rfl hb68.1 hb68.2 d_Mo_group_284 ?_
        refine jr_iload_n ok 2 d_Mo_group_285 rfl rfl ?_
        refine jr_iadd ok d_Mo_group_286 ?_
        refine jr_iconst ok d_Mo_group_287 ?_
        obtain ⟨hb69, hs⟩ := oq_if hs
        refine jr_zast (moL D g (MS.w_m_isCell S (aU S.m_isCell ((S.m_starts v1) + v3) 0))) ok 16 rfl rfl hb69.1 hb69.2 (by decide +kernel) rfl d_Mo_group_288 ?_
        refine jr_aload_n ok 0 d_Mo_group_289 rfl rfl ?_
        refine jr_get (v := .ref (g 15)) ok 0 f_Mo_57 rfl rfl d_Mo_group_290 ?_
        refine jr_aload_n ok 0 d_Mo_group_293 rfl rfl ?_
        refine jr_get (v := .ref (g 17)) ok 0 f_Mo_64 rfl rfl d_Mo_group_294 ?_
        refine jr_iload_n ok 1 d_Mo_group_297 rfl rfl ?_
        obtain ⟨hb70, hs⟩ := oq_if hs
        refine jr_iald ok 17 rfl rfl hb70.1 hb70.2 d_Mo_group_298 ?_
        show jw X 0 0 (moL D g (MS.w_m_isCell S (aU S.m_isCell ((S.m_starts v1) + v3) 0))) [(0, .ref (g 0)), (1, .int (ii v1)), (3, .int (ii v3))] 299 [.int (ii (S.m_starts v1)), .ref (g 15)]
        refine jr_iload_n ok 2 d_Mo_group_299 rfl rfl ?_
        refine jr_iadd ok d_Mo_group_300 ?_
        refine jr_lconst (z := 0) ok d_Mo_group_301 (by decide +kernel) ?_
        obtain ⟨hb71, hs⟩ := oq_if hs
        refine jr_last (moL D g (MS.w_m_cells (MS.w_m_isCell S (aU S.m_isCell ((S.m_starts v1) + v3) 0)) (aU S.m_cells ((S.m_starts v1) + v3) (ll 0)))) ok 15 rfl rfl hb71.1 hb71.2  rfl d_Mo_group_302 ?_
        refine jr_iinc [(3, .int (ii (v3 + 1))), (0, .ref (g 0)), (1, .int (ii v1))] 2 ok d_Mo_group_303 rfl (by rw [hN]; decide) rfl ?_
        refine jr_goto 260 ok d_Mo_group_306 (by decide) ?_
        exact jr_lv [1, 2, 0] rfl (ih260 v1 (v3 + 1) (MS.w_m_cells (MS.w_m_isCell S (aU S.m_isCell ((S.m_starts v1) + v3) 0)) (aU S.m_cells ((S.m_starts v1) + v3) (ll 0))) hs)
  have B_9 : ∀ (n9 : Nat), ∀ (v1 : Int) (v2 : Int) (v3 : Int) (S : MS), q_Mo_group_9 n9 v1 v2 v3 S = some (r, S9) → jw X 0 0 (moL D g S) [(0, .ref (g 0)), (1, .int (ii v1)), (2, .int (ii v2)), (3, .int (ii v3))] 9 [] := by
    intro n9
    induction n9 with
    | zero =>
      intro v1 v2 v3 S hs
      rw [q_Mo_group_9] at hs; cases hs
    | succ n9 ih9 =>
      have B_252 : ∀ (v1 : Int) (v2 : Int) (v3 : Int) (S : MS), q_Mo_group_252 (q_Mo_group_9 n9) v1 v2 v3 S = some (r, S9) → jw X 0 0 (moL D g S) [(0, .ref (g 0)), (1, .int (ii v1)), (2, .int (ii v2)), (3, .int (ii v3))] 252 [] := by
        intro v1 v2 v3 S hs
        rw [q_Mo_group_252] at hs
        refine jr_iinc [(3, .int (ii (v3 + 1))), (0, .ref (g 0)), (1, .int (ii v1)), (2, .int (ii v2))] 3 ok d_Mo_group_252 rfl (by rw [hN]; decide) rfl ?_
        refine jr_goto 9 ok d_Mo_group_255 (by decide) ?_
        exact jr_lv [1, 2, 3, 0] rfl (ih9 v1 v2 (v3 + 1) S hs)
      have B_244 : ∀ (v1 : Int) (v2 : Int) (v3 : Int) (v4 : Int) (S : MS), q_Mo_group_244 (q_Mo_group_9 n9) v1 v2 v3 v4 S = some (r, S9) → jw X 0 0 (moL D g S) [(0, .ref (g 0)), (1, .int (ii v1)), (2, .int (ii v2)), (3, .int (ii v3)), (4, .int (ii v4))] 244 [] := by
        intro v1 v2 v3 v4 S hs
        rw [q_Mo_group_244] at hs
        refine jr_aload_n ok 0 d_Mo_group_244 rfl rfl ?_
        refine jr_get (v := .ref (g 18)) ok 0 f_Mo_67 rfl rfl d_Mo_group_245 ?_
        refine jr_iload_n ok 3 d_Mo_group_248 rfl rfl ?_
        refine jr_iload ok 4 d_Mo_group_249 rfl ?_
        obtain ⟨hb65, hs⟩ := oq_if hs
        refine jr_iast (moL D g (MS.w_m_rowOf S (aU S.m_rowOf v3 v4))) ok 18 rfl rfl hb65.1 hb65.2  rfl d_Mo_group_251 ?_
        exact jr_lv [0, 1, 2, 3] rfl (B_252 v1 v2 v3 (MS.w_m_rowOf S (aU S.m_rowOf v3 v4)) hs)
      have B_170 : ∀ (n170 : Nat), ∀ (v1 : Int) (v2 : Int) (v3 : Int) (v4 : Int) (v5 : Int) (S : MS), q_Mo_group_170 (q_Mo_group_9 n9) n170 v1 v2 v3 v4 v5 S = some (r, S9) → jw X 0 0 (moL D g S) [(0, .ref (g 0)), (1, .int (ii v1)), (2, .int (ii v2)), (3, .int (ii v3)), (4, .int (ii v4)), (5, .int (ii v5))] 170 [] := by
        intro n170
        induction n170 with
        | zero =>
          intro v1 v2 v3 v4 v5 S hs
          rw [q_Mo_group_170] at hs; cases hs
        | succ n170 ih170 =>
          have B_213 : ∀ (v1 : Int) (v2 : Int) (v3 : Int) (v4 : Int) (v5 : Int) (t0 : Int) (t1 : Int) (S : MS), q_Mo_group_213 (q_Mo_group_9 n9) (q_Mo_group_170 (q_Mo_group_9 n9) n170) v1 v2 v3 v4 v5 t0 t1 S = some (r, S9) → jw X 0 0 (moL D g S) [(0, .ref (g 0)), (1, .int (ii v1)), (2, .int (ii v2)), (3, .int (ii v3)), (4, .int (ii v4)), (5, .int (ii v5))] 213 [.int (ii t0), .int (ii t1), .ref (g 18)] := by
            intro v1 v2 v3 v4 v5 t0 t1 S hs
            rw [q_Mo_group_213] at hs
            obtain ⟨hb64, hs⟩ := oq_if hs
            refine jr_iast (moL D g (MS.w_m_rowOf S (aU S.m_rowOf t1 t0))) ok 18 rfl rfl hb64.1 hb64.2  rfl d_Mo_group_213 ?_
            refine jr_iinc [(5, .int (ii (v5 + 1))), (0, .ref (g 0)), (1, .int (ii v1)), (2, .int (ii v2)), (3, .int (ii v3)), (4, .int (ii v4))] 5 ok d_Mo_group_214 rfl (by rw [hN]; decide) rfl ?_
            refine jr_goto 170 ok d_Mo_group_217 (by decide) ?_
            exact jr_lv [1, 2, 3, 4, 5, 0] rfl (ih170 v1 v2 v3 v4 (v5 + 1) (MS.w_m_rowOf S (aU S.m_rowOf t1 t0)) hs)
          intro v1 v2 v3 v4 v5 S hs
          rw [q_Mo_group_170] at hs
          refine jr_iload ok 5 d_Mo_group_170 rfl ?_
          refine jr_iload_n ok 3 d_Mo_group_172 rfl rfl ?_
          refine jr_wicmp_ge 220 ok rfl rfl d_Mo_group_173 (by decide) (fun c56 => ?_) (fun c56 => ?_)
          · replace hs := oq_pos c56 hs
            refine jr_aload_n ok 0 d_Mo_group_220 rfl rfl ?_
            refine jr_get (v := .ref (g 14)) ok 0 f_Mo_53 rfl rfl d_Mo_group_221 ?_
            refine jr_sipush ok d_Mo_group_224 (by decide +kernel) ?_
            refine jr_iload_n ok 1 d_Mo_group_227 rfl rfl ?_
            refine jr_imul ok d_Mo_group_228 ?_
            refine jr_iload ok 4 d_Mo_group_229 rfl ?_
            refine jr_iadd ok d_Mo_group_231 ?_
            refine jr_iload_n ok 3 d_Mo_group_232 rfl rfl ?_
            obtain ⟨hb57, hs⟩ := oq_if hs
            refine jr_iast (moL D g (MS.w_m_rowSeries S (aU S.m_rowSeries ((256 * v1) + v4) v3))) ok 14 rfl rfl hb57.1 hb57.2  rfl d_Mo_group_233 ?_
            refine jr_aload_n ok 0 d_Mo_group_234 rfl rfl ?_
            refine jr_get (v := .ref (g 13)) ok 0 f_Mo_50 rfl rfl d_Mo_group_235 ?_
            refine jr_iload_n ok 1 d_Mo_group_238 rfl rfl ?_
            refine jr_dup2 rfl rfl ok d_Mo_group_239 ?_
            obtain ⟨hb58, hs⟩ := oq_if hs
            refine jr_iald ok 13 rfl rfl hb58.1 hb58.2 d_Mo_group_240 ?_
            show jw X 0 0 (moL D g (MS.w_m_rowSeries S (aU S.m_rowSeries ((256 * v1) + v4) v3))) [(0, .ref (g 0)), (1, .int (ii v1)), (2, .int (ii v2)), (3, .int (ii v3)), (4, .int (ii v4)), (5, .int (ii v5))] 241 [.int (ii (S.m_tableRows v1)), .int (ii v1), .ref (g 13)]
            refine jr_iconst ok d_Mo_group_241 ?_
            refine jr_iadd ok d_Mo_group_242 ?_
            obtain ⟨hb59, hs⟩ := oq_if hs
            refine jr_iast (moL D g (MS.w_m_tableRows (MS.w_m_rowSeries S (aU S.m_rowSeries ((256 * v1) + v4) v3)) (aU S.m_tableRows v1 ((S.m_tableRows v1) + 1)))) ok 13 rfl rfl hb59.1 hb59.2  rfl d_Mo_group_243 ?_
            exact jr_lv [0, 1, 2, 3, 4] rfl (B_244 v1 v2 v3 v4 (MS.w_m_tableRows (MS.w_m_rowSeries S (aU S.m_rowSeries ((256 * v1) + v4) v3)) (aU S.m_tableRows v1 ((S.m_tableRows v1) + 1))) hs)
          · replace hs := oq_neg c56 hs
            refine jr_aload_n ok 0 d_Mo_group_176 rfl rfl ?_
            refine jr_get (v := .ref (g 18)) ok 0 f_Mo_67 rfl rfl d_Mo_group_177 ?_
            refine jr_iload ok 5 d_Mo_group_180 rfl ?_
            refine jr_aload_n ok 0 d_Mo_group_182 rfl rfl ?_
            refine jr_get (v := .ref (g 18)) ok 0 f_Mo_67 rfl rfl d_Mo_group_183 ?_
            refine jr_iload ok 5 d_Mo_group_186 rfl ?_
            obtain ⟨hb60, hs⟩ := oq_if hs
            refine jr_iald ok 18 rfl rfl hb60.1 hb60.2 d_Mo_group_188 ?_
            refine jr_iload ok 4 d_Mo_group_189 rfl ?_
            refine jr_wicmp_lt 206 ok rfl rfl d_Mo_group_191 (by decide) (fun c61 => ?_) (fun c61 => ?_)
            · replace hs := oq_pos c61 hs
              refine jr_aload_n ok 0 d_Mo_group_206 rfl rfl ?_
              refine jr_get (v := .ref (g 18)) ok 0 f_Mo_67 rfl rfl d_Mo_group_207 ?_
              refine jr_iload ok 5 d_Mo_group_210 rfl ?_
              obtain ⟨hb62, hs⟩ := oq_if hs
              refine jr_iald ok 18 rfl rfl hb62.1 hb62.2 d_Mo_group_212 ?_
              exact jr_lv [0, 1, 2, 3, 4, 5] rfl (B_213 v1 v2 v3 v4 v5 (S.m_rowOf v5) v5 S hs)
            · replace hs := oq_neg c61 hs
              refine jr_aload_n ok 0 d_Mo_group_194 rfl rfl ?_
              refine jr_get (v := .ref (g 18)) ok 0 f_Mo_67 rfl rfl d_Mo_group_195 ?_
              refine jr_iload ok 5 d_Mo_group_198 rfl ?_
              obtain ⟨hb63, hs⟩ := oq_if hs
              refine jr_iald ok 18 rfl rfl hb63.1 hb63.2 d_Mo_group_200 ?_
              refine jr_iconst ok d_Mo_group_201 ?_
              refine jr_iadd ok d_Mo_group_202 ?_
              refine jr_goto 213 ok d_Mo_group_203 (by decide) ?_
              exact jr_lv [0, 1, 2, 3, 4, 5] rfl (B_213 v1 v2 v3 v4 v5 ((S.m_rowOf v5) + 1) v5 S hs)
      have B_126 : ∀ (n126 : Nat), ∀ (v1 : Int) (v2 : Int) (v3 : Int) (v4 : Int) (v5 : Int) (S : MS), q_Mo_group_126 (q_Mo_group_9 n9) n126 v1 v2 v3 v4 v5 S = some (r, S9) → jw X 0 0 (moL D g S) [(0, .ref (g 0)), (1, .int (ii v1)), (2, .int (ii v2)), (3, .int (ii v3)), (4, .int (ii v4)), (5, .int (ii v5))] 126 [] := by
        intro n126
        induction n126 with
        | zero =>
          intro v1 v2 v3 v4 v5 S hs
          rw [q_Mo_group_126] at hs; cases hs
        | succ n126 ih126 =>
          intro v1 v2 v3 v4 v5 S hs
          rw [q_Mo_group_126] at hs
          refine jr_iload ok 5 d_Mo_group_126 rfl ?_
          refine jr_iload ok 4 d_Mo_group_128 rfl ?_
          refine jr_wicmp_le 167 ok rfl rfl d_Mo_group_130 (by decide) (fun c53 => ?_) (fun c53 => ?_)
          · replace hs := oq_pos c53 hs
            refine jr_iconst ok d_Mo_group_167 ?_
            refine jr_istore [(5, .int (ii 0)), (0, .ref (g 0)), (1, .int (ii v1)), (2, .int (ii v2)), (3, .int (ii v3)), (4, .int (ii v4))] ok d_Mo_group_168 (by rw [hN]; decide) rfl ?_
            exact jr_lv [1, 2, 3, 4, 5, 0] rfl (B_170 fU v1 v2 v3 v4 0 S hs)
          · replace hs := oq_neg c53 hs
            refine jr_aload_n ok 0 d_Mo_group_133 rfl rfl ?_
            refine jr_get (v := .ref (g 14)) ok 0 f_Mo_53 rfl rfl d_Mo_group_134 ?_
            refine jr_sipush ok d_Mo_group_137 (by decide +kernel) ?_
            refine jr_iload_n ok 1 d_Mo_group_140 rfl rfl ?_
            refine jr_imul ok d_Mo_group_141 ?_
            refine jr_iload ok 5 d_Mo_group_142 rfl ?_
            refine jr_iadd ok d_Mo_group_144 ?_
            refine jr_aload_n ok 0 d_Mo_group_145 rfl rfl ?_
            refine jr_get (v := .ref (g 14)) ok 0 f_Mo_53 rfl rfl d_Mo_group_146 ?_
            refine jr_sipush ok d_Mo_group_149 (by decide +kernel) ?_
            refine jr_iload_n ok 1 d_Mo_group_152 rfl rfl ?_
            refine jr_imul ok d_Mo_group_153 ?_
            refine jr_iload ok 5 d_Mo_group_154 rfl ?_
            refine jr_iadd ok d_Mo_group_156 ?_
            refine jr_iconst ok d_Mo_group_157 ?_
            refine jr_isub ok d_Mo_group_158 ?_
            obtain ⟨hb54, hs⟩ := oq_if hs
            refine jr_iald ok 14 rfl rfl hb54.1 hb54.2 d_Mo_group_159 ?_
            obtain ⟨hb55, hs⟩ := oq_if hs
            refine jr_iast (moL D g (MS.w_m_rowSeries S (aU S.m_rowSeries ((256 * v1) + v5) (S.m_rowSeries (((256 * v1) + v5) - 1))))) ok 14 rfl rfl hb55.1 hb55.2  rfl d_Mo_group_160 ?_
            refine jr_iinc [(5, .int (ii (v5 + (-1)))), (0, .ref (g 0)), (1, .int (ii v1)), (2, .int (ii v2)), (3, .int (ii v3)), (4, .int (ii v4))] 5 ok d_Mo_group_161 rfl (by rw [hN]; decide) rfl ?_
            refine jr_goto 126 ok d_Mo_group_164 (by decide) ?_
            exact jr_lv [1, 2, 3, 4, 5, 0] rfl (ih126 v1 v2 v3 v4 (v5 + (-1)) (MS.w_m_rowSeries S (aU S.m_rowSeries ((256 * v1) + v5) (S.m_rowSeries (((256 * v1) + v5) - 1)))) hs)
      have B_118 : ∀ (v1 : Int) (v2 : Int) (v3 : Int) (v4 : Int) (S : MS), q_Mo_group_118 (q_Mo_group_9 n9) v1 v2 v3 v4 S = some (r, S9) → jw X 0 0 (moL D g S) [(0, .ref (g 0)), (1, .int (ii v1)), (2, .int (ii v2)), (3, .int (ii v3)), (4, .int (ii v4))] 118 [] := by
        intro v1 v2 v3 v4 S hs
        rw [q_Mo_group_118] at hs
        refine jr_aload_n ok 0 d_Mo_group_118 rfl rfl ?_
        refine jr_get (v := .ref (g 13)) ok 0 f_Mo_50 rfl rfl d_Mo_group_119 ?_
        refine jr_iload_n ok 1 d_Mo_group_122 rfl rfl ?_
        obtain ⟨hb52, hs⟩ := oq_if hs
        refine jr_iald ok 13 rfl rfl hb52.1 hb52.2 d_Mo_group_123 ?_
        refine jr_istore [(5, .int (ii (S.m_tableRows v1))), (0, .ref (g 0)), (1, .int (ii v1)), (2, .int (ii v2)), (3, .int (ii v3)), (4, .int (ii v4))] ok d_Mo_group_124 (by rw [hN]; decide) rfl ?_
        exact jr_lv [1, 2, 3, 4, 5, 0] rfl (B_126 fU v1 v2 v3 v4 (S.m_tableRows v1) S hs)
      have B_85 : ∀ (v1 : Int) (v2 : Int) (v3 : Int) (v4 : Int) (S : MS), q_Mo_group_85 (q_Mo_group_9 n9) v1 v2 v3 v4 S = some (r, S9) → jw X 0 0 (moL D g S) [(0, .ref (g 0)), (1, .int (ii v1)), (2, .int (ii v2)), (3, .int (ii v3)), (4, .int (ii v4))] 85 [] := by
        intro v1 v2 v3 v4 S hs
        rw [q_Mo_group_85] at hs
        refine jr_iload ok 4 d_Mo_group_85 rfl ?_
        refine jr_aload_n ok 0 d_Mo_group_87 rfl rfl ?_
        refine jr_get (v := .ref (g 13)) ok 0 f_Mo_50 rfl rfl d_Mo_group_88 ?_
        refine jr_iload_n ok 1 d_Mo_group_91 rfl rfl ?_
        obtain ⟨hb47, hs⟩ := oq_if hs
        refine jr_iald ok 13 rfl rfl hb47.1 hb47.2 d_Mo_group_92 ?_
        refine jr_wicmp_eq 118 ok rfl rfl d_Mo_group_93 (by decide) (fun c48 => ?_) (fun c48 => ?_)
        · replace hs := oq_pos c48 hs
          exact jr_lv [0, 1, 2, 3, 4] rfl (B_118 v1 v2 v3 v4 S hs)
        · replace hs := oq_neg c48 hs
          refine jr_aload_n ok 0 d_Mo_group_96 rfl rfl ?_
          refine jr_iload_n ok 1 d_Mo_group_97 rfl rfl ?_
          refine jr_aload_n ok 0 d_Mo_group_98 rfl rfl ?_
          refine jr_get (v := .ref (g 14)) ok 0 f_Mo_53 rfl rfl d_Mo_group_99 ?_
          refine jr_sipush ok d_Mo_group_102 (by decide +kernel) ?_
          refine jr_iload_n ok 1 d_Mo_group_105 rfl rfl ?_
          refine jr_imul ok d_Mo_group_106 ?_
          refine jr_iload ok 4 d_Mo_group_107 rfl ?_
          refine jr_iadd ok d_Mo_group_109 ?_
          obtain ⟨hb49, hs⟩ := oq_if hs
          refine jr_iald ok 14 rfl rfl hb49.1 hb49.2 d_Mo_group_110 ?_
          refine jr_iload_n ok 3 d_Mo_group_111 rfl rfl ?_
          obtain ⟨r50, S50, hc50, hs⟩ := mb2_some hs
          refine jr_mV1 ok hR m_Mo_247 (c_Mo_compareRows (jx_l X) D g S v1 (S.m_rowSeries ((256 * v1) + v4)) v3 r50 S50 hc50) rfl rfl rfl rfl (Nat.le_of_ble_eq_true rfl) ⟨Nat.le_of_ble_eq_true rfl, Nat.le_of_ble_eq_true rfl⟩ ⟨Nat.zero_le _, Nat.zero_le _⟩ d_Mo_group_112 ?_
          refine jr_wif_le 244 ok rfl d_Mo_group_115 (by decide) (fun c51 => ?_) (fun c51 => ?_)
          · replace hs := oq_pos c51 hs
            exact jr_lv [0, 1, 2, 3, 4] rfl (B_244 v1 v2 v3 v4 S50 hs)
          · replace hs := oq_neg c51 hs
            exact jr_lv [0, 1, 2, 3, 4] rfl (B_118 v1 v2 v3 v4 S50 hs)
      have B_46 : ∀ (n46 : Nat), ∀ (v1 : Int) (v2 : Int) (v3 : Int) (v4 : Int) (S : MS), q_Mo_group_46 (q_Mo_group_9 n9) n46 v1 v2 v3 v4 S = some (r, S9) → jw X 0 0 (moL D g S) [(0, .ref (g 0)), (1, .int (ii v1)), (2, .int (ii v2)), (3, .int (ii v3)), (4, .int (ii v4))] 46 [] := by
        intro n46
        induction n46 with
        | zero =>
          intro v1 v2 v3 v4 S hs
          rw [q_Mo_group_46] at hs; cases hs
        | succ n46 ih46 =>
          intro v1 v2 v3 v4 S hs
          rw [q_Mo_group_46] at hs
          refine jr_iload ok 4 d_Mo_group_46 rfl ?_
          refine jr_aload_n ok 0 d_Mo_group_48 rfl rfl ?_
          refine jr_get (v := .ref (g 13)) ok 0 f_Mo_50 rfl rfl d_Mo_group_49 ?_
          refine jr_iload_n ok 1 d_Mo_group_52 rfl rfl ?_
          obtain ⟨hb42, hs⟩ := oq_if hs
          refine jr_iald ok 13 rfl rfl hb42.1 hb42.2 d_Mo_group_53 ?_
          refine jr_wicmp_ge 85 ok rfl rfl d_Mo_group_54 (by decide) (fun c43 => ?_) (fun c43 => ?_)
          · replace hs := oq_pos c43 hs
            exact jr_lv [0, 1, 2, 3, 4] rfl (B_85 v1 v2 v3 v4 S hs)
          · replace hs := oq_neg c43 hs
            refine jr_aload_n ok 0 d_Mo_group_57 rfl rfl ?_
            refine jr_iload_n ok 1 d_Mo_group_58 rfl rfl ?_
            refine jr_aload_n ok 0 d_Mo_group_59 rfl rfl ?_
            refine jr_get (v := .ref (g 14)) ok 0 f_Mo_53 rfl rfl d_Mo_group_60 ?_
            refine jr_sipush ok d_Mo_group_63 (by decide +kernel) ?_
            refine jr_iload_n ok 1 d_Mo_group_66 rfl rfl ?_
            refine jr_imul ok d_Mo_group_67 ?_
            refine jr_iload ok 4 d_Mo_group_68 rfl ?_
            refine jr_iadd ok d_Mo_group_70 ?_
            obtain ⟨hb44, hs⟩ := oq_if hs
            refine jr_iald ok 14 rfl rfl hb44.1 hb44.2 d_Mo_group_71 ?_
            refine jr_iload_n ok 3 d_Mo_group_72 rfl rfl ?_
            obtain ⟨r45, S45, hc45, hs⟩ := mb2_some hs
            refine jr_mV1 ok hR m_Mo_247 (c_Mo_compareRows (jx_l X) D g S v1 (S.m_rowSeries ((256 * v1) + v4)) v3 r45 S45 hc45) rfl rfl rfl rfl (Nat.le_of_ble_eq_true rfl) ⟨Nat.le_of_ble_eq_true rfl, Nat.le_of_ble_eq_true rfl⟩ ⟨Nat.zero_le _, Nat.zero_le _⟩ d_Mo_group_73 ?_
            refine jr_wif_ge 85 ok rfl d_Mo_group_76 (by decide) (fun c46 => ?_) (fun c46 => ?_)
            · replace hs := oq_pos c46 hs
              exact jr_lv [0, 1, 2, 3, 4] rfl (B_85 v1 v2 v3 v4 S45 hs)
            · replace hs := oq_neg c46 hs
              refine jr_iinc [(4, .int (ii (v4 + 1))), (0, .ref (g 0)), (1, .int (ii v1)), (2, .int (ii v2)), (3, .int (ii v3))] 4 ok d_Mo_group_79 rfl (by rw [hN]; decide) rfl ?_
              refine jr_goto 46 ok d_Mo_group_82 (by decide) ?_
              exact jr_lv [1, 2, 3, 4, 0] rfl (ih46 v1 v2 v3 (v4 + 1) S45 hs)
      intro v1 v2 v3 S hs
      rw [q_Mo_group_9] at hs
      refine jr_iload_n ok 3 d_Mo_group_9 rfl rfl ?_
      refine jr_aload_n ok 0 d_Mo_group_10 rfl rfl ?_
      refine jr_get (v := .int (ii S.m_seriesCount)) ok 0 f_Mo_133 rfl rfl d_Mo_group_11 ?_
      refine jr_wicmp_ge 258 ok rfl rfl d_Mo_group_14 (by decide) (fun c37 => ?_) (fun c37 => ?_)
      · replace hs := oq_pos c37 hs
        refine jr_iconst ok d_Mo_group_258 ?_
        refine jr_istore_n [(3, .int (ii 0)), (0, .ref (g 0)), (1, .int (ii v1)), (2, .int (ii v2))] ok d_Mo_group_259 rfl (by rw [hN]; decide) rfl ?_
        exact jr_lv [1, 2, 0] rfl (B_260 fU v1 0 S hs)
      · replace hs := oq_neg c37 hs
        refine jr_aload_n ok 0 d_Mo_group_17 rfl rfl ?_
        refine jr_get (v := .ref (g 18)) ok 0 f_Mo_67 rfl rfl d_Mo_group_18 ?_
        refine jr_iload_n ok 3 d_Mo_group_21 rfl rfl ?_
        refine jr_iconst ok d_Mo_group_22 ?_
        obtain ⟨hb38, hs⟩ := oq_if hs
        refine jr_iast (moL D g (MS.w_m_rowOf S (aU S.m_rowOf v3 (-1)))) ok 18 rfl rfl hb38.1 hb38.2  rfl d_Mo_group_23 ?_
        refine jr_aload_n ok 0 d_Mo_group_24 rfl rfl ?_
        refine jr_get (v := .ref (g 22)) ok 0 f_Mo_79 rfl rfl d_Mo_group_25 ?_
        refine jr_iload_n ok 3 d_Mo_group_28 rfl rfl ?_
        refine jr_iconst ok d_Mo_group_29 ?_
        obtain ⟨hb39, hs⟩ := oq_if hs
        refine jr_zast (moL D g (MS.w_m_hasBefore (MS.w_m_rowOf S (aU S.m_rowOf v3 (-1))) (aU S.m_hasBefore v3 0))) ok 22 rfl rfl hb39.1 hb39.2 (by decide +kernel) rfl d_Mo_group_30 ?_
        refine jr_aload_n ok 0 d_Mo_group_31 rfl rfl ?_
        refine jr_iload_n ok 3 d_Mo_group_32 rfl rfl ?_
        refine jr_iload_n ok 2 d_Mo_group_33 rfl rfl ?_
        obtain ⟨r40, S40, hc40, hs⟩ := mb2_some hs
        refine jr_mV1 ok hR m_Mo_244 (c_Mo_matches (jx_l X) D g (MS.w_m_hasBefore (MS.w_m_rowOf S (aU S.m_rowOf v3 (-1))) (aU S.m_hasBefore v3 0)) v3 v2 r40 S40 hc40) rfl rfl rfl rfl (Nat.le_of_ble_eq_true rfl) ⟨Nat.le_of_ble_eq_true rfl, Nat.le_of_ble_eq_true rfl⟩ ⟨Nat.zero_le _, Nat.zero_le _⟩ d_Mo_group_34 ?_
        refine jr_wif_ne 43 ok rfl d_Mo_group_37 (by decide) (fun c41 => ?_) (fun c41 => ?_)
        · replace hs := oq_neg c41 hs
          refine jr_iconst ok d_Mo_group_43 ?_
          refine jr_istore [(4, .int (ii 0)), (0, .ref (g 0)), (1, .int (ii v1)), (2, .int (ii v2)), (3, .int (ii v3))] ok d_Mo_group_44 (by rw [hN]; decide) rfl ?_
          exact jr_lv [1, 2, 3, 4, 0] rfl (B_46 fU v1 v2 v3 0 S40 hs)
        · replace hs := oq_pos c41 hs
          refine jr_goto 252 ok d_Mo_group_40 (by decide) ?_
          exact jr_lv [0, 1, 2, 3] rfl (B_252 v1 v2 v3 S40 hs)
  show jw X 0 0 (moL D g S) [(0, .ref (g 0)), (1, .int (ii v1)), (2, .int (ii v2))] 0 []
  rw [s_Mo_group] at hs
  refine jr_aload_n ok 0 d_Mo_group_0 rfl rfl ?_
  refine jr_get (v := .ref (g 13)) ok 0 f_Mo_50 rfl rfl d_Mo_group_1 ?_
  refine jr_iload_n ok 1 d_Mo_group_4 rfl rfl ?_
  refine jr_iconst ok d_Mo_group_5 ?_
  obtain ⟨hb72, hs⟩ := oq_if hs
  refine jr_iast (moL D g (MS.w_m_tableRows S (aU S.m_tableRows v1 0))) ok 13 rfl rfl hb72.1 hb72.2  rfl d_Mo_group_6 ?_
  refine jr_iconst ok d_Mo_group_7 ?_
  refine jr_istore_n [(3, .int (ii 0)), (0, .ref (g 0)), (1, .int (ii v1)), (2, .int (ii v2))] ok d_Mo_group_8 rfl (by rw [hN]; decide) rfl ?_
  exact jr_lv [1, 2, 3, 0] rfl (B_9 fU v1 v2 0 (MS.w_m_tableRows S (aU S.m_tableRows v1 0)) hs)

def q_Mo_function_253 (v2 : Int) (v3 : Int) (S : MS) : Option (Int × MS) := mb2 (s_Mo_isStart S 103 114 111) (fun r66 S66 => if w32 r66 = 0 then some (-1, S66) else mb2 (s_Mo_at S66 (S66.m_from + 3)) (fun r68 S68 => if w32 r68 = 119 then if w32 v3 = 116 then if w32 v2 = 104 then some (6, S68) else some (-1, S68) else some (-1, S68) else some (-1, S68)))

def q_Mo_function_172 (v3 : Int) (v4 : Int) (S : MS) : Option (Int × MS) := mb2 (s_Mo_isStart S 102 105 114) (fun r62 S62 => if w32 r62 = 0 then some (-1, S62) else if w32 v3 = 115 then if w32 v4 = 0 then some (-1, S62) else some (4, S62) else some (-1, S62))

def q_Mo_function_144 (v3 : Int) (v4 : Int) (S : MS) : Option (Int × MS) := mb2 (s_Mo_isStart S 108 101 97) (fun r58 S58 => if w32 r58 = 0 then q_Mo_function_172 v3 v4 S58 else if w32 v3 = 115 then if w32 v4 = 0 then q_Mo_function_172 v3 v4 S58 else some (2, S58) else q_Mo_function_172 v3 v4 S58)

def q_Mo_function_109 (v1 : Int) (v2 : Int) (v3 : Int) (t0 : Int) (S : MS) : Option (Int × MS) := if w32 v1 = 5 then mb2 (s_Mo_isStart S 99 111 117) (fun r54 S54 => if w32 r54 = 0 then q_Mo_function_144 v3 t0 S54 else if w32 v3 = 110 then if w32 t0 = 0 then q_Mo_function_144 v3 t0 S54 else some (1, S54) else q_Mo_function_144 v3 t0 S54) else if w32 v1 = 6 then mb2 (s_Mo_isStart S 108 97 116) (fun r48 S48 => if w32 r48 = 0 then q_Mo_function_253 v2 v3 S48 else mb2 (s_Mo_at S48 (S48.m_from + 3)) (fun r50 S50 => if w32 r50 = 101 then if w32 v3 = 115 then if w32 t0 = 0 then q_Mo_function_253 v2 v3 S50 else some (5, S50) else q_Mo_function_253 v2 v3 S50 else q_Mo_function_253 v2 v3 S50)) else some (-1, S)

def q_Mo_function_21 (t0 : Int) (S : MS) : Option (Int × MS) := if w32 t0 = 3 then mb2 (s_Mo_isName S 115 117 109 32 3) (fun r44 S44 => if w32 r44 = 0 then some (-1, S44) else some (0, S44)) else if w32 t0 = 4 then mb2 (s_Mo_isName S 109 111 115 116 4) (fun r42 S42 => if w32 r42 = 0 then some (-1, S42) else some (3, S42)) else mb2 (s_Mo_at S (S.m_to - 1)) (fun r39 S39 => mb2 (s_Mo_at S39 (S39.m_to - 2)) (fun r40 S40 => if w32 r39 = 116 then q_Mo_function_109 t0 r39 r40 1 S40 else q_Mo_function_109 t0 r39 r40 0 S40))

def s_Mo_function (S : MS)  : Option (Int × MS) := if w32 S.m_kind = 2 then q_Mo_function_21 (S.m_to - S.m_from) S else q_Mo_function_21 0 S
set_option maxHeartbeats 4000000 in
set_option maxRecDepth 100000 in
theorem c_Mo_function (l : Launch) (D : jd_T) (g : Nat → Nat) (S : MS)  (r : Int) (S9 : MS) (hs : s_Mo_function S  = some (r, S9)) : jc_C l D y_Mo_function b_Mo_function 5 (some .int) { frames := 2, cells := 0, slots := 0, locals := 46 } [.ref (g 0)] (moL D g S) (fun _ : Unit => (.returned (some (.int (ii r))), True, (moL D g S9))) := by
  refine jc_of rfl (Nat.le_of_ble_eq_true rfl) ?_
  intro X hl hR hN ok hnm fin
  subst hl
  have B_253 : ∀ (v2 : Int) (v3 : Int) (S : MS), q_Mo_function_253 v2 v3 S = some (r, S9) → jw X 0 0 (moL D g S) [(0, .ref (g 0)), (2, .int (ii v2)), (3, .int (ii v3))] 253 [] := by
    intro v2 v3 S hs
    rw [q_Mo_function_253] at hs
    refine jr_aload_n ok 0 d_Mo_function_253 rfl rfl ?_
    refine jr_bipush ok d_Mo_function_254 (by decide +kernel) ?_
    refine jr_bipush ok d_Mo_function_256 (by decide +kernel) ?_
    refine jr_bipush ok d_Mo_function_258 (by decide +kernel) ?_
    obtain ⟨r66, S66, hc66, hs⟩ := mb2_some hs
    refine jr_mV1 ok hR m_Mo_230 (c_Mo_isStart (jx_l X) D g S 103 114 111 r66 S66 hc66) rfl rfl rfl rfl (Nat.le_of_ble_eq_true rfl) ⟨Nat.le_of_ble_eq_true rfl, Nat.le_of_ble_eq_true rfl⟩ ⟨Nat.zero_le _, Nat.zero_le _⟩ d_Mo_function_260 ?_
    refine jr_wif_eq 298 ok rfl d_Mo_function_263 (by decide) (fun c67 => ?_) (fun c67 => ?_)
    · replace hs := oq_pos c67 hs
      refine jr_iconst ok d_Mo_function_298 ?_
      exact jm_iret (Lf := moL D g) ok fin hs d_Mo_function_299
    · replace hs := oq_neg c67 hs
      refine jr_aload_n ok 0 d_Mo_function_266 rfl rfl ?_
      refine jr_aload_n ok 0 d_Mo_function_267 rfl rfl ?_
      refine jr_get (v := .int (ii S66.m_from)) ok 0 f_Mo_195 rfl rfl d_Mo_function_268 ?_
      refine jr_iconst ok d_Mo_function_271 ?_
      refine jr_iadd ok d_Mo_function_272 ?_
      obtain ⟨r68, S68, hc68, hs⟩ := mb2_some hs
      refine jr_mV1 ok hR m_Mo_198 (c_Mo_at (jx_l X) D g S66 (S66.m_from + 3) r68 S68 hc68) rfl rfl rfl rfl (Nat.le_of_ble_eq_true rfl) ⟨Nat.le_of_ble_eq_true rfl, Nat.le_of_ble_eq_true rfl⟩ ⟨Nat.zero_le _, Nat.zero_le _⟩ d_Mo_function_273 ?_
      refine jr_bipush ok d_Mo_function_276 (by decide +kernel) ?_
      refine jr_wicmp_ne 298 ok rfl (show w32 119 = 119 by decide) d_Mo_function_278 (by decide) (fun c69 => ?_) (fun c69 => ?_)
      · replace hs := oq_neg c69 hs
        refine jr_iconst ok d_Mo_function_298 ?_
        exact jm_iret (Lf := moL D g) ok fin hs d_Mo_function_299
      · replace hs := oq_pos c69 hs
        refine jr_iload_n ok 2 d_Mo_function_281 rfl rfl ?_
        refine jr_bipush ok d_Mo_function_282 (by decide +kernel) ?_
        refine jr_wicmp_ne 298 ok rfl (show w32 116 = 116 by decide) d_Mo_function_284 (by decide) (fun c70 => ?_) (fun c70 => ?_)
        · replace hs := oq_neg c70 hs
          refine jr_iconst ok d_Mo_function_298 ?_
          exact jm_iret (Lf := moL D g) ok fin hs d_Mo_function_299
        · replace hs := oq_pos c70 hs
          refine jr_iload_n ok 1 d_Mo_function_287 rfl rfl ?_
          refine jr_bipush ok d_Mo_function_288 (by decide +kernel) ?_
          refine jr_wicmp_ne 298 ok rfl (show w32 104 = 104 by decide) d_Mo_function_290 (by decide) (fun c71 => ?_) (fun c71 => ?_)
          · replace hs := oq_neg c71 hs
            refine jr_iconst ok d_Mo_function_298 ?_
            exact jm_iret (Lf := moL D g) ok fin hs d_Mo_function_299
          · replace hs := oq_pos c71 hs
            refine jr_bipush ok d_Mo_function_293 (by decide +kernel) ?_
            refine jr_goto 299 ok d_Mo_function_295 (by decide) ?_
            exact jm_iret (Lf := moL D g) ok fin hs d_Mo_function_299
  have B_172 : ∀ (v3 : Int) (v4 : Int) (S : MS), q_Mo_function_172 v3 v4 S = some (r, S9) → jw X 0 0 (moL D g S) [(0, .ref (g 0)), (3, .int (ii v3)), (4, .int (ii v4))] 172 [] := by
    intro v3 v4 S hs
    rw [q_Mo_function_172] at hs
    refine jr_aload_n ok 0 d_Mo_function_172 rfl rfl ?_
    refine jr_bipush ok d_Mo_function_173 (by decide +kernel) ?_
    refine jr_bipush ok d_Mo_function_175 (by decide +kernel) ?_
    refine jr_bipush ok d_Mo_function_177 (by decide +kernel) ?_
    obtain ⟨r62, S62, hc62, hs⟩ := mb2_some hs
    refine jr_mV1 ok hR m_Mo_230 (c_Mo_isStart (jx_l X) D g S 102 105 114 r62 S62 hc62) rfl rfl rfl rfl (Nat.le_of_ble_eq_true rfl) ⟨Nat.le_of_ble_eq_true rfl, Nat.le_of_ble_eq_true rfl⟩ ⟨Nat.zero_le _, Nat.zero_le _⟩ d_Mo_function_179 ?_
    refine jr_wif_eq 200 ok rfl d_Mo_function_182 (by decide) (fun c63 => ?_) (fun c63 => ?_)
    · replace hs := oq_pos c63 hs
      refine jr_iconst ok d_Mo_function_200 ?_
      exact jm_iret (Lf := moL D g) ok fin hs d_Mo_function_201
    · replace hs := oq_neg c63 hs
      refine jr_iload_n ok 1 d_Mo_function_185 rfl rfl ?_
      refine jr_bipush ok d_Mo_function_186 (by decide +kernel) ?_
      refine jr_wicmp_ne 200 ok rfl (show w32 115 = 115 by decide) d_Mo_function_188 (by decide) (fun c64 => ?_) (fun c64 => ?_)
      · replace hs := oq_neg c64 hs
        refine jr_iconst ok d_Mo_function_200 ?_
        exact jm_iret (Lf := moL D g) ok fin hs d_Mo_function_201
      · replace hs := oq_pos c64 hs
        refine jr_iload ok 2 d_Mo_function_191 rfl ?_
        refine jr_wif_eq 200 ok rfl d_Mo_function_193 (by decide) (fun c65 => ?_) (fun c65 => ?_)
        · replace hs := oq_pos c65 hs
          refine jr_iconst ok d_Mo_function_200 ?_
          exact jm_iret (Lf := moL D g) ok fin hs d_Mo_function_201
        · replace hs := oq_neg c65 hs
          refine jr_iconst ok d_Mo_function_196 ?_
          refine jr_goto 201 ok d_Mo_function_197 (by decide) ?_
          exact jm_iret (Lf := moL D g) ok fin hs d_Mo_function_201
  have B_144 : ∀ (v3 : Int) (v4 : Int) (S : MS), q_Mo_function_144 v3 v4 S = some (r, S9) → jw X 0 0 (moL D g S) [(0, .ref (g 0)), (3, .int (ii v3)), (4, .int (ii v4))] 144 [] := by
    intro v3 v4 S hs
    rw [q_Mo_function_144] at hs
    refine jr_aload_n ok 0 d_Mo_function_144 rfl rfl ?_
    refine jr_bipush ok d_Mo_function_145 (by decide +kernel) ?_
    refine jr_bipush ok d_Mo_function_147 (by decide +kernel) ?_
    refine jr_bipush ok d_Mo_function_149 (by decide +kernel) ?_
    obtain ⟨r58, S58, hc58, hs⟩ := mb2_some hs
    refine jr_mV1 ok hR m_Mo_230 (c_Mo_isStart (jx_l X) D g S 108 101 97 r58 S58 hc58) rfl rfl rfl rfl (Nat.le_of_ble_eq_true rfl) ⟨Nat.le_of_ble_eq_true rfl, Nat.le_of_ble_eq_true rfl⟩ ⟨Nat.zero_le _, Nat.zero_le _⟩ d_Mo_function_151 ?_
    refine jr_wif_eq 172 ok rfl d_Mo_function_154 (by decide) (fun c59 => ?_) (fun c59 => ?_)
    · replace hs := oq_pos c59 hs
      exact jr_lv [0, 1, 2] rfl (B_172 v3 v4 S58 hs)
    · replace hs := oq_neg c59 hs
      refine jr_iload_n ok 1 d_Mo_function_157 rfl rfl ?_
      refine jr_bipush ok d_Mo_function_158 (by decide +kernel) ?_
      refine jr_wicmp_ne 172 ok rfl (show w32 115 = 115 by decide) d_Mo_function_160 (by decide) (fun c60 => ?_) (fun c60 => ?_)
      · replace hs := oq_neg c60 hs
        exact jr_lv [0, 1, 2] rfl (B_172 v3 v4 S58 hs)
      · replace hs := oq_pos c60 hs
        refine jr_iload ok 2 d_Mo_function_163 rfl ?_
        refine jr_wif_eq 172 ok rfl d_Mo_function_165 (by decide) (fun c61 => ?_) (fun c61 => ?_)
        · replace hs := oq_pos c61 hs
          exact jr_lv [0, 1, 2] rfl (B_172 v3 v4 S58 hs)
        · replace hs := oq_neg c61 hs
          refine jr_iconst ok d_Mo_function_168 ?_
          refine jr_goto 201 ok d_Mo_function_169 (by decide) ?_
          exact jm_iret (Lf := moL D g) ok fin hs d_Mo_function_201
  have B_109 : ∀ (v1 : Int) (v2 : Int) (v3 : Int) (t0 : Int) (S : MS), q_Mo_function_109 v1 v2 v3 t0 S = some (r, S9) → jw X 0 0 (moL D g S) [(0, .ref (g 0)), (1, .int (ii v1)), (2, .int (ii v2)), (3, .int (ii v3))] 109 [.int (ii t0)] := by
    intro v1 v2 v3 t0 S hs
    rw [q_Mo_function_109] at hs
    refine jr_istore [(4, .int (ii t0)), (0, .ref (g 0)), (1, .int (ii v1)), (2, .int (ii v2)), (3, .int (ii v3))] ok d_Mo_function_109 (by rw [hN]; decide) rfl ?_
    refine jr_iload_n ok 2 d_Mo_function_111 rfl rfl ?_
    refine jr_iconst ok d_Mo_function_112 ?_
    refine jr_wicmp_ne 202 ok rfl (show w32 5 = 5 by decide) d_Mo_function_113 (by decide) (fun c46 => ?_) (fun c46 => ?_)
    · replace hs := oq_neg c46 hs
      refine jr_iload_n ok 2 d_Mo_function_202 rfl rfl ?_
      refine jr_bipush ok d_Mo_function_203 (by decide +kernel) ?_
      refine jr_wicmp_eq 210 ok rfl (show w32 6 = 6 by decide) d_Mo_function_205 (by decide) (fun c47 => ?_) (fun c47 => ?_)
      · replace hs := oq_pos c47 hs
        refine jr_aload_n ok 1 d_Mo_function_210 rfl rfl ?_
        refine jr_bipush ok d_Mo_function_211 (by decide +kernel) ?_
        refine jr_bipush ok d_Mo_function_213 (by decide +kernel) ?_
        refine jr_bipush ok d_Mo_function_215 (by decide +kernel) ?_
        obtain ⟨r48, S48, hc48, hs⟩ := mb2_some hs
        refine jr_mV1 ok hR m_Mo_230 (c_Mo_isStart (jx_l X) D g S 108 97 116 r48 S48 hc48) rfl rfl rfl rfl (Nat.le_of_ble_eq_true rfl) ⟨Nat.le_of_ble_eq_true rfl, Nat.le_of_ble_eq_true rfl⟩ ⟨Nat.zero_le _, Nat.zero_le _⟩ d_Mo_function_217 ?_
        refine jr_wif_eq 253 ok rfl d_Mo_function_220 (by decide) (fun c49 => ?_) (fun c49 => ?_)
        · replace hs := oq_pos c49 hs
          exact jr_lv [1, 3, 4] rfl (B_253 v2 v3 S48 hs)
        · replace hs := oq_neg c49 hs
          refine jr_aload_n ok 1 d_Mo_function_223 rfl rfl ?_
          refine jr_aload_n ok 1 d_Mo_function_224 rfl rfl ?_
          refine jr_get (v := .int (ii S48.m_from)) ok 0 f_Mo_195 rfl rfl d_Mo_function_225 ?_
          refine jr_iconst ok d_Mo_function_228 ?_
          refine jr_iadd ok d_Mo_function_229 ?_
          obtain ⟨r50, S50, hc50, hs⟩ := mb2_some hs
          refine jr_mV1 ok hR m_Mo_198 (c_Mo_at (jx_l X) D g S48 (S48.m_from + 3) r50 S50 hc50) rfl rfl rfl rfl (Nat.le_of_ble_eq_true rfl) ⟨Nat.le_of_ble_eq_true rfl, Nat.le_of_ble_eq_true rfl⟩ ⟨Nat.zero_le _, Nat.zero_le _⟩ d_Mo_function_230 ?_
          refine jr_bipush ok d_Mo_function_233 (by decide +kernel) ?_
          refine jr_wicmp_ne 253 ok rfl (show w32 101 = 101 by decide) d_Mo_function_235 (by decide) (fun c51 => ?_) (fun c51 => ?_)
          · replace hs := oq_neg c51 hs
            exact jr_lv [1, 3, 4] rfl (B_253 v2 v3 S50 hs)
          · replace hs := oq_pos c51 hs
            refine jr_iload_n ok 4 d_Mo_function_238 rfl rfl ?_
            refine jr_bipush ok d_Mo_function_239 (by decide +kernel) ?_
            refine jr_wicmp_ne 253 ok rfl (show w32 115 = 115 by decide) d_Mo_function_241 (by decide) (fun c52 => ?_) (fun c52 => ?_)
            · replace hs := oq_neg c52 hs
              exact jr_lv [1, 3, 4] rfl (B_253 v2 v3 S50 hs)
            · replace hs := oq_pos c52 hs
              refine jr_iload ok 0 d_Mo_function_244 rfl ?_
              refine jr_wif_eq 253 ok rfl d_Mo_function_246 (by decide) (fun c53 => ?_) (fun c53 => ?_)
              · replace hs := oq_pos c53 hs
                exact jr_lv [1, 3, 4] rfl (B_253 v2 v3 S50 hs)
              · replace hs := oq_neg c53 hs
                refine jr_iconst ok d_Mo_function_249 ?_
                refine jr_goto 299 ok d_Mo_function_250 (by decide) ?_
                exact jm_iret (Lf := moL D g) ok fin hs d_Mo_function_299
      · replace hs := oq_neg c47 hs
        refine jr_iconst ok d_Mo_function_208 ?_
        exact jm_iret (Lf := moL D g) ok fin hs d_Mo_function_209
    · replace hs := oq_pos c46 hs
      refine jr_aload_n ok 1 d_Mo_function_116 rfl rfl ?_
      refine jr_bipush ok d_Mo_function_117 (by decide +kernel) ?_
      refine jr_bipush ok d_Mo_function_119 (by decide +kernel) ?_
      refine jr_bipush ok d_Mo_function_121 (by decide +kernel) ?_
      obtain ⟨r54, S54, hc54, hs⟩ := mb2_some hs
      refine jr_mV1 ok hR m_Mo_230 (c_Mo_isStart (jx_l X) D g S 99 111 117 r54 S54 hc54) rfl rfl rfl rfl (Nat.le_of_ble_eq_true rfl) ⟨Nat.le_of_ble_eq_true rfl, Nat.le_of_ble_eq_true rfl⟩ ⟨Nat.zero_le _, Nat.zero_le _⟩ d_Mo_function_123 ?_
      refine jr_wif_eq 144 ok rfl d_Mo_function_126 (by decide) (fun c55 => ?_) (fun c55 => ?_)
      · replace hs := oq_pos c55 hs
        exact jr_lv [1, 4, 0] rfl (B_144 v3 t0 S54 hs)
      · replace hs := oq_neg c55 hs
        refine jr_iload_n ok 4 d_Mo_function_129 rfl rfl ?_
        refine jr_bipush ok d_Mo_function_130 (by decide +kernel) ?_
        refine jr_wicmp_ne 144 ok rfl (show w32 110 = 110 by decide) d_Mo_function_132 (by decide) (fun c56 => ?_) (fun c56 => ?_)
        · replace hs := oq_neg c56 hs
          exact jr_lv [1, 4, 0] rfl (B_144 v3 t0 S54 hs)
        · replace hs := oq_pos c56 hs
          refine jr_iload ok 0 d_Mo_function_135 rfl ?_
          refine jr_wif_eq 144 ok rfl d_Mo_function_137 (by decide) (fun c57 => ?_) (fun c57 => ?_)
          · replace hs := oq_pos c57 hs
            exact jr_lv [1, 4, 0] rfl (B_144 v3 t0 S54 hs)
          · replace hs := oq_neg c57 hs
            refine jr_iconst ok d_Mo_function_140 ?_
            refine jr_goto 201 ok d_Mo_function_141 (by decide) ?_
            exact jm_iret (Lf := moL D g) ok fin hs d_Mo_function_201
  have B_21 : ∀ (t0 : Int) (S : MS), q_Mo_function_21 t0 S = some (r, S9) → jw X 0 0 (moL D g S) [(0, .ref (g 0))] 21 [.int (ii t0)] := by
    intro t0 S hs
    rw [q_Mo_function_21] at hs
    refine jr_istore_n [(1, .int (ii t0)), (0, .ref (g 0))] ok d_Mo_function_21 rfl (by rw [hN]; decide) rfl ?_
    refine jr_iload_n ok 0 d_Mo_function_22 rfl rfl ?_
    refine jr_iconst ok d_Mo_function_23 ?_
    refine jr_wicmp_ne 49 ok rfl (show w32 3 = 3 by decide) d_Mo_function_24 (by decide) (fun c37 => ?_) (fun c37 => ?_)
    · replace hs := oq_neg c37 hs
      refine jr_iload_n ok 0 d_Mo_function_49 rfl rfl ?_
      refine jr_iconst ok d_Mo_function_50 ?_
      refine jr_wicmp_ne 76 ok rfl (show w32 4 = 4 by decide) d_Mo_function_51 (by decide) (fun c38 => ?_) (fun c38 => ?_)
      · replace hs := oq_neg c38 hs
        refine jr_aload_n ok 1 d_Mo_function_76 rfl rfl ?_
        refine jr_aload_n ok 1 d_Mo_function_77 rfl rfl ?_
        refine jr_get (v := .int (ii S.m_to)) ok 0 f_Mo_192 rfl rfl d_Mo_function_78 ?_
        refine jr_iconst ok d_Mo_function_81 ?_
        refine jr_isub ok d_Mo_function_82 ?_
        obtain ⟨r39, S39, hc39, hs⟩ := mb2_some hs
        refine jr_mV1 ok hR m_Mo_198 (c_Mo_at (jx_l X) D g S (S.m_to - 1) r39 S39 hc39) rfl rfl rfl rfl (Nat.le_of_ble_eq_true rfl) ⟨Nat.le_of_ble_eq_true rfl, Nat.le_of_ble_eq_true rfl⟩ ⟨Nat.zero_le _, Nat.zero_le _⟩ d_Mo_function_83 ?_
        refine jr_istore_n [(2, .int (ii r39)), (1, .int (ii t0)), (0, .ref (g 0))] ok d_Mo_function_86 rfl (by rw [hN]; decide) rfl ?_
        refine jr_aload_n ok 2 d_Mo_function_87 rfl rfl ?_
        refine jr_aload_n ok 2 d_Mo_function_88 rfl rfl ?_
        refine jr_get (v := .int (ii S39.m_to)) ok 0 f_Mo_192 rfl rfl d_Mo_function_89 ?_
        refine jr_iconst ok d_Mo_function_92 ?_
        refine jr_isub ok d_Mo_function_93 ?_
        obtain ⟨r40, S40, hc40, hs⟩ := mb2_some hs
        refine jr_mV1 ok hR m_Mo_198 (c_Mo_at (jx_l X) D g S39 (S39.m_to - 2) r40 S40 hc40) rfl rfl rfl rfl (Nat.le_of_ble_eq_true rfl) ⟨Nat.le_of_ble_eq_true rfl, Nat.le_of_ble_eq_true rfl⟩ ⟨Nat.zero_le _, Nat.zero_le _⟩ d_Mo_function_94 ?_
        refine jr_istore_n [(3, .int (ii r40)), (2, .int (ii r39)), (1, .int (ii t0)), (0, .ref (g 0))] ok d_Mo_function_97 rfl (by rw [hN]; decide) rfl ?_
        refine jr_iload_n ok 1 d_Mo_function_98 rfl rfl ?_
        refine jr_bipush ok d_Mo_function_99 (by decide +kernel) ?_
        refine jr_wicmp_ne 108 ok rfl (show w32 116 = 116 by decide) d_Mo_function_101 (by decide) (fun c41 => ?_) (fun c41 => ?_)
        · replace hs := oq_neg c41 hs
          refine jr_iconst ok d_Mo_function_108 ?_
          exact jr_lv [3, 2, 1, 0] rfl (B_109 t0 r39 r40 0 S40 hs)
        · replace hs := oq_pos c41 hs
          refine jr_iconst ok d_Mo_function_104 ?_
          refine jr_goto 109 ok d_Mo_function_105 (by decide) ?_
          exact jr_lv [3, 2, 1, 0] rfl (B_109 t0 r39 r40 1 S40 hs)
      · replace hs := oq_pos c38 hs
        refine jr_aload_n ok 1 d_Mo_function_54 rfl rfl ?_
        refine jr_bipush ok d_Mo_function_55 (by decide +kernel) ?_
        refine jr_bipush ok d_Mo_function_57 (by decide +kernel) ?_
        refine jr_bipush ok d_Mo_function_59 (by decide +kernel) ?_
        refine jr_bipush ok d_Mo_function_61 (by decide +kernel) ?_
        refine jr_iconst ok d_Mo_function_63 ?_
        obtain ⟨r42, S42, hc42, hs⟩ := mb2_some hs
        refine jr_mV1 ok hR m_Mo_226 (c_Mo_isName (jx_l X) D g S 109 111 115 116 4 r42 S42 hc42) rfl rfl rfl rfl (Nat.le_of_ble_eq_true rfl) ⟨Nat.le_of_ble_eq_true rfl, Nat.le_of_ble_eq_true rfl⟩ ⟨Nat.zero_le _, Nat.zero_le _⟩ d_Mo_function_64 ?_
        refine jr_wif_eq 74 ok rfl d_Mo_function_67 (by decide) (fun c43 => ?_) (fun c43 => ?_)
        · replace hs := oq_pos c43 hs
          refine jr_iconst ok d_Mo_function_74 ?_
          exact jm_iret (Lf := moL D g) ok fin hs d_Mo_function_75
        · replace hs := oq_neg c43 hs
          refine jr_iconst ok d_Mo_function_70 ?_
          refine jr_goto 75 ok d_Mo_function_71 (by decide) ?_
          exact jm_iret (Lf := moL D g) ok fin hs d_Mo_function_75
    · replace hs := oq_pos c37 hs
      refine jr_aload_n ok 1 d_Mo_function_27 rfl rfl ?_
      refine jr_bipush ok d_Mo_function_28 (by decide +kernel) ?_
      refine jr_bipush ok d_Mo_function_30 (by decide +kernel) ?_
      refine jr_bipush ok d_Mo_function_32 (by decide +kernel) ?_
      refine jr_bipush ok d_Mo_function_34 (by decide +kernel) ?_
      refine jr_iconst ok d_Mo_function_36 ?_
      obtain ⟨r44, S44, hc44, hs⟩ := mb2_some hs
      refine jr_mV1 ok hR m_Mo_226 (c_Mo_isName (jx_l X) D g S 115 117 109 32 3 r44 S44 hc44) rfl rfl rfl rfl (Nat.le_of_ble_eq_true rfl) ⟨Nat.le_of_ble_eq_true rfl, Nat.le_of_ble_eq_true rfl⟩ ⟨Nat.zero_le _, Nat.zero_le _⟩ d_Mo_function_37 ?_
      refine jr_wif_eq 47 ok rfl d_Mo_function_40 (by decide) (fun c45 => ?_) (fun c45 => ?_)
      · replace hs := oq_pos c45 hs
        refine jr_iconst ok d_Mo_function_47 ?_
        exact jm_iret (Lf := moL D g) ok fin hs d_Mo_function_48
      · replace hs := oq_neg c45 hs
        refine jr_iconst ok d_Mo_function_43 ?_
        refine jr_goto 48 ok d_Mo_function_44 (by decide) ?_
        exact jm_iret (Lf := moL D g) ok fin hs d_Mo_function_48
  show jw X 0 0 (moL D g S) [(0, .ref (g 0))] 0 []
  rw [s_Mo_function] at hs
  refine jr_aload_n ok 0 d_Mo_function_0 rfl rfl ?_
  refine jr_get (v := .int (ii S.m_kind)) ok 0 f_Mo_201 rfl rfl d_Mo_function_1 ?_
  refine jr_iconst ok d_Mo_function_4 ?_
  refine jr_wicmp_ne 20 ok rfl (show w32 2 = 2 by decide) d_Mo_function_5 (by decide) (fun c72 => ?_) (fun c72 => ?_)
  · replace hs := oq_neg c72 hs
    refine jr_iconst ok d_Mo_function_20 ?_
    exact jr_lv [0] rfl (B_21 0 S hs)
  · replace hs := oq_pos c72 hs
    refine jr_aload_n ok 0 d_Mo_function_8 rfl rfl ?_
    refine jr_get (v := .int (ii S.m_to)) ok 0 f_Mo_192 rfl rfl d_Mo_function_9 ?_
    refine jr_aload_n ok 0 d_Mo_function_12 rfl rfl ?_
    refine jr_get (v := .int (ii S.m_from)) ok 0 f_Mo_195 rfl rfl d_Mo_function_13 ?_
    refine jr_isub ok d_Mo_function_16 ?_
    refine jr_goto 21 ok d_Mo_function_17 (by decide) ?_
    exact jr_lv [0] rfl (B_21 (S.m_to - S.m_from) S hs)

def q_Mo_retain_23 (v1 : Int64) (t0 : Int) (S : MS) : Option (Int × MS) := if w32 t0 ≤ 0 then mb2 (s_Mo_between (MS.w_m_code S t0) (-1) (ll 0) (v1 - (ll 1)) 0) (fun r7 S7 => mb2 (s_Mo_go S7 (-1) (ll 0) (v1 - (ll 1))) (fun r8 S8 => some (r7, MS.w_m_horizon S8 v1))) else some (0, MS.w_m_code S t0)

def q_Mo_retain_18 (v1 : Int64) (S : MS) : Option (Int × MS) := q_Mo_retain_23 v1 1 S

def s_Mo_retain (S : MS) (v1 : Int64) : Option (Int × MS) := if v1.toInt < S.m_horizon.toInt then q_Mo_retain_18 v1 S else if v1.toInt ≤ 1099511627775 then q_Mo_retain_23 v1 0 S else q_Mo_retain_18 v1 S
set_option maxHeartbeats 4000000 in
set_option maxRecDepth 100000 in
theorem c_Mo_retain (l : Launch) (D : jd_T) (g : Nat → Nat) (S : MS) (v1 : Int64) (r : Int) (S9 : MS) (hs : s_Mo_retain S v1 = some (r, S9)) : jc_C l D y_Mo_retain b_Mo_retain 4 (some .int) { frames := 2, cells := 0, slots := 0, locals := 49 } [.ref (g 0), .long v1] (moL D g S) (fun _ : Unit => (.returned (some (.int (ii r))), True, (moL D g S9))) := by
  refine jc_of rfl (Nat.le_of_ble_eq_true rfl) ?_
  intro X hl hR hN ok hnm fin
  subst hl
  have B_23 : ∀ (v1 : Int64) (t0 : Int) (S : MS), q_Mo_retain_23 v1 t0 S = some (r, S9) → jw X 0 0 (moL D g S) [(0, .ref (g 0)), (1, .long v1)] 23 [.int (ii t0), .ref (g 0)] := by
    intro v1 t0 S hs
    rw [q_Mo_retain_23] at hs
    refine jr_put (moL D g (MS.w_m_code S t0)) ok 0 f_Mo_101 rfl rfl rfl (Nat.le_of_ble_eq_true rfl) rfl d_Mo_retain_23 ?_
    refine jr_aload_n ok 0 d_Mo_retain_26 rfl rfl ?_
    refine jr_get (v := .int (ii t0)) ok 0 f_Mo_101 rfl rfl d_Mo_retain_27 ?_
    refine jr_wif_le 35 ok rfl d_Mo_retain_30 (by decide) (fun c6 => ?_) (fun c6 => ?_)
    · replace hs := oq_pos c6 hs
      refine jr_aload_n ok 0 d_Mo_retain_35 rfl rfl ?_
      refine jr_iconst ok d_Mo_retain_36 ?_
      refine jr_lconst (z := 0) ok d_Mo_retain_37 (by decide +kernel) ?_
      refine jr_lload_n ok 1 d_Mo_retain_38 rfl rfl ?_
      refine jr_lconst (z := 1) ok d_Mo_retain_39 (by decide +kernel) ?_
      refine jr_lsubx ok d_Mo_retain_40 ?_
      refine jr_iconst ok d_Mo_retain_41 ?_
      obtain ⟨r7, S7, hc7, hs⟩ := mb2_some hs
      refine jr_mV1 ok hR m_Mo_179 (c_Mo_between (jx_l X) D g (MS.w_m_code S t0) (-1) (ll 0) (v1 - (ll 1)) 0 r7 S7 hc7) rfl rfl rfl rfl (Nat.le_of_ble_eq_true rfl) ⟨Nat.le_of_ble_eq_true rfl, Nat.le_of_ble_eq_true rfl⟩ ⟨Nat.zero_le _, Nat.zero_le _⟩ d_Mo_retain_42 ?_
      refine jr_istore_n [(3, .int (ii r7)), (0, .ref (g 0)), (1, .long v1)] ok d_Mo_retain_45 rfl (by rw [hN]; decide) rfl ?_
      refine jr_aload_n ok 1 d_Mo_retain_46 rfl rfl ?_
      refine jr_iconst ok d_Mo_retain_47 ?_
      refine jr_lconst (z := 0) ok d_Mo_retain_48 (by decide +kernel) ?_
      refine jr_lload_n ok 2 d_Mo_retain_49 rfl rfl ?_
      refine jr_lconst (z := 1) ok d_Mo_retain_50 (by decide +kernel) ?_
      refine jr_lsubx ok d_Mo_retain_51 ?_
      obtain ⟨r8, S8, hc8, hs⟩ := mb2_some hs
      refine jr_mV0 ok hR m_Mo_186 (c_Mo_go (jx_l X) D g S7 (-1) (ll 0) (v1 - (ll 1)) r8 S8 hc8) rfl rfl rfl rfl (Nat.le_of_ble_eq_true rfl) ⟨Nat.le_of_ble_eq_true rfl, Nat.le_of_ble_eq_true rfl⟩ ⟨Nat.zero_le _, Nat.zero_le _⟩ d_Mo_retain_52 ?_
      refine jr_aload_n ok 1 d_Mo_retain_55 rfl rfl ?_
      refine jr_lload_n ok 2 d_Mo_retain_56 rfl rfl ?_
      refine jr_put (moL D g (MS.w_m_horizon S8 v1)) ok 0 f_Mo_157 rfl rfl rfl (Nat.le_of_ble_eq_true rfl) rfl d_Mo_retain_57 ?_
      refine jr_iload_n ok 0 d_Mo_retain_60 rfl rfl ?_
      exact jm_iret (Lf := moL D g) ok fin hs d_Mo_retain_61
    · replace hs := oq_neg c6 hs
      refine jr_iconst ok d_Mo_retain_33 ?_
      exact jm_iret (Lf := moL D g) ok fin hs d_Mo_retain_34
  have B_18 : ∀ (v1 : Int64) (S : MS), q_Mo_retain_18 v1 S = some (r, S9) → jw X 0 0 (moL D g S) [(0, .ref (g 0)), (1, .long v1)] 18 [.ref (g 0)] := by
    intro v1 S hs
    rw [q_Mo_retain_18] at hs
    refine jr_iconst ok d_Mo_retain_18 ?_
    refine jr_goto 23 ok d_Mo_retain_19 (by decide) ?_
    exact jr_lv [0, 1] rfl (B_23 v1 1 S hs)
  show jw X 0 0 (moL D g S) [(0, .ref (g 0)), (1, .long v1)] 0 []
  rw [s_Mo_retain] at hs
  refine jr_aload_n ok 0 d_Mo_retain_0 rfl rfl ?_
  refine jr_lload_n ok 1 d_Mo_retain_1 rfl rfl ?_
  refine jr_aload_n ok 0 d_Mo_retain_2 rfl rfl ?_
  refine jr_get (v := .long S.m_horizon) ok 0 f_Mo_157 rfl rfl d_Mo_retain_3 ?_
  refine jr_lif_lt 18 ok rfl rfl d_Mo_retain_6 d_Mo_retain_7 (by decide) (fun c9 => ?_) (fun c9 => ?_)
  · replace hs := oq_pos c9 hs
    exact jr_lv [0, 1] rfl (B_18 v1 S hs)
  · replace hs := oq_neg c9 hs
    refine jr_lload_n ok 1 d_Mo_retain_10 rfl rfl ?_
    refine jr_ldc2 (z := 1099511627775) ok w_1591 (by decide +kernel) d_Mo_retain_11 ?_
    refine jr_lif_le 22 ok rfl (ll_toInt ⟨by decide, by decide⟩) d_Mo_retain_14 d_Mo_retain_15 (by decide) (fun c10 => ?_) (fun c10 => ?_)
    · replace hs := oq_pos c10 hs
      refine jr_iconst ok d_Mo_retain_22 ?_
      exact jr_lv [0, 1] rfl (B_23 v1 0 S hs)
    · replace hs := oq_neg c10 hs
      exact jr_lv [0, 1] rfl (B_18 v1 S hs)

def q_Mo_next_223  (S : MS) : Option (Int × MS) := mb2 (s_Mo_at S S.m_to) (fun r61 S61 => if w32 r61 = 34 then some (1, MS.w_m_to S61 (S61.m_to + 1)) else mb2 (s_Mo_flaw S61 1 S61.m_from) (fun r63 S63 => if r63 = 0 ∨ r63 = 1 then some (r63, S63) else none))

def q_Mo_next_160 : Nat → MS → Option (Int × MS)
  | 0, _ => none
  | n + 1, S => if w32 S.m_length ≤ w32 S.m_to then q_Mo_next_223 S else mb2 (s_Mo_at S S.m_to) (fun r55 S55 => if w32 r55 ≤ 31 then q_Mo_next_223 S55 else mb2 (s_Mo_at S55 S55.m_to) (fun r57 S57 => if 127 ≤ w32 r57 then q_Mo_next_223 S57 else mb2 (s_Mo_at S57 S57.m_to) (fun r59 S59 => if w32 r59 = 34 then q_Mo_next_223 S59 else (q_Mo_next_160 n) (MS.w_m_to S59 (S59.m_to + 1)))))

def q_Mo_next_126 (k98 : MS → Option (Int × MS))  (S : MS) : Option (Int × MS) := k98 (MS.w_m_to S (S.m_to + 1))

def q_Mo_next_98 : Nat → MS → Option (Int × MS)
  | 0, _ => none
  | n + 1, S => mb2 (s_Mo_at S S.m_to) (fun r48 S48 => mb1 (s_Mo_isLetter r48) (fun r49 => if w32 r49 = 0 then mb2 (s_Mo_at S48 S48.m_to) (fun r51 S51 => mb1 (s_Mo_isDigit r51) (fun r52 => if w32 r52 = 0 then some (1, S51) else q_Mo_next_126 (q_Mo_next_98 n) S51)) else q_Mo_next_126 (q_Mo_next_98 n) S48))

def q_Mo_next_38  (S : MS) : Option (Int × MS) := mb2 (s_Mo_at (MS.w_m_from S S.m_to) S.m_to) (fun r36 S36 => if w32 S36.m_from < w32 S36.m_length then mb1 (s_Mo_isDigit r36) (fun r38 => if w32 r38 = 0 then mb1 (s_Mo_isLetter r36) (fun r40 => if w32 r40 = 0 then if w32 r36 = 34 then q_Mo_next_160 fU (MS.w_m_to (MS.w_m_kind S36 3) (S36.m_to + 1)) else mb2 (s_Mo_at S36 (S36.m_from + 1)) (fun r43 S43 => mb2 (s_Mo_readSign S43 r36 r43) (fun r44 S44 => if r44 = 0 ∨ r44 = 1 then some (r44, S44) else none)) else q_Mo_next_98 fU (MS.w_m_kind S36 2)) else mb2 (s_Mo_readNumber S36 ) (fun r46 S46 => if r46 = 0 ∨ r46 = 1 then some (r46, S46) else none)) else some (1, MS.w_m_kind S36 0))

def q_Mo_next_0 : Nat → MS → Option (Int × MS)
  | 0, _ => none
  | n + 1, S => if w32 S.m_length ≤ w32 S.m_to then q_Mo_next_38 S else if (0 : Int) ≤ S.m_to ∧ S.m_to < (65536 : Int) then if w32 (S.m_tape S.m_to) = 32 then (q_Mo_next_0 n) (MS.w_m_to S (S.m_to + 1)) else q_Mo_next_38 S else none

def s_Mo_next (S : MS)  : Option (Int × MS) := q_Mo_next_0 fU S
set_option maxHeartbeats 4000000 in
set_option maxRecDepth 100000 in
theorem c_Mo_next (l : Launch) (D : jd_T) (g : Nat → Nat) (S : MS)  (r : Int) (S9 : MS) (hs : s_Mo_next S  = some (r, S9)) : jc_C l D y_Mo_next b_Mo_next 2 (some .boolean) { frames := 2, cells := 0, slots := 0, locals := 46 } [.ref (g 0)] (moL D g S) (fun _ : Unit => (.returned (some (.int (ii r))), True, (moL D g S9))) := by
  refine jc_of rfl (Nat.le_of_ble_eq_true rfl) ?_
  intro X hl hR hN ok hnm fin
  subst hl
  have B_223 : ∀ (S : MS), q_Mo_next_223 S = some (r, S9) → jw X 0 0 (moL D g S) [(0, .ref (g 0))] 223 [] := by
    intro S hs
    rw [q_Mo_next_223] at hs
    refine jr_aload_n ok 0 d_Mo_next_223 rfl rfl ?_
    refine jr_aload_n ok 0 d_Mo_next_224 rfl rfl ?_
    refine jr_get (v := .int (ii S.m_to)) ok 0 f_Mo_192 rfl rfl d_Mo_next_225 ?_
    obtain ⟨r61, S61, hc61, hs⟩ := mb2_some hs
    refine jr_mV1 ok hR m_Mo_198 (c_Mo_at (jx_l X) D g S S.m_to r61 S61 hc61) rfl rfl rfl rfl (Nat.le_of_ble_eq_true rfl) ⟨Nat.le_of_ble_eq_true rfl, Nat.le_of_ble_eq_true rfl⟩ ⟨Nat.zero_le _, Nat.zero_le _⟩ d_Mo_next_228 ?_
    refine jr_bipush ok d_Mo_next_231 (by decide +kernel) ?_
    refine jr_wicmp_eq 246 ok rfl (show w32 34 = 34 by decide) d_Mo_next_233 (by decide) (fun c62 => ?_) (fun c62 => ?_)
    · replace hs := oq_pos c62 hs
      refine jr_aload_n ok 0 d_Mo_next_246 rfl rfl ?_
      refine jr_dup rfl ok d_Mo_next_247 ?_
      refine jr_get (v := .int (ii S61.m_to)) ok 0 f_Mo_192 rfl rfl d_Mo_next_248 ?_
      refine jr_iconst ok d_Mo_next_251 ?_
      refine jr_iadd ok d_Mo_next_252 ?_
      refine jr_put (moL D g (MS.w_m_to S61 (S61.m_to + 1))) ok 0 f_Mo_192 rfl rfl rfl (Nat.le_of_ble_eq_true rfl) rfl d_Mo_next_253 ?_
      refine jr_goto 275 ok d_Mo_next_256 (by decide) ?_
      refine jr_iconst ok d_Mo_next_275 ?_
      exact jm_zret (Lf := moL D g) ok (by decide +kernel) fin hs d_Mo_next_276
    · replace hs := oq_neg c62 hs
      refine jr_aload_n ok 0 d_Mo_next_236 rfl rfl ?_
      refine jr_iconst ok d_Mo_next_237 ?_
      refine jr_aload_n ok 0 d_Mo_next_238 rfl rfl ?_
      refine jr_get (v := .int (ii S61.m_from)) ok 0 f_Mo_195 rfl rfl d_Mo_next_239 ?_
      obtain ⟨r63, S63, hc63, hs⟩ := mb2_some hs
      refine jr_mV1 ok hR m_Mo_125 (c_Mo_flaw (jx_l X) D g S61 1 S61.m_from r63 S63 hc63) rfl rfl rfl rfl (Nat.le_of_ble_eq_true rfl) ⟨Nat.le_of_ble_eq_true rfl, Nat.le_of_ble_eq_true rfl⟩ ⟨Nat.zero_le _, Nat.zero_le _⟩ d_Mo_next_242 ?_
      obtain ⟨hb64, hs⟩ := oq_if hs
      exact jm_zret (Lf := moL D g) ok (nz_b hb64) fin hs d_Mo_next_245
  have B_160 : ∀ (n160 : Nat), ∀ (S : MS), q_Mo_next_160 n160 S = some (r, S9) → jw X 0 0 (moL D g S) [(0, .ref (g 0))] 160 [] := by
    intro n160
    induction n160 with
    | zero =>
      intro S hs
      rw [q_Mo_next_160] at hs; cases hs
    | succ n160 ih160 =>
      intro S hs
      rw [q_Mo_next_160] at hs
      refine jr_aload_n ok 0 d_Mo_next_160 rfl rfl ?_
      refine jr_get (v := .int (ii S.m_to)) ok 0 f_Mo_192 rfl rfl d_Mo_next_161 ?_
      refine jr_aload_n ok 0 d_Mo_next_164 rfl rfl ?_
      refine jr_get (v := .int (ii S.m_length)) ok 0 f_Mo_105 rfl rfl d_Mo_next_165 ?_
      refine jr_wicmp_ge 223 ok rfl rfl d_Mo_next_168 (by decide) (fun c54 => ?_) (fun c54 => ?_)
      · replace hs := oq_pos c54 hs
        exact jr_lv [0] rfl (B_223 S hs)
      · replace hs := oq_neg c54 hs
        refine jr_aload_n ok 0 d_Mo_next_171 rfl rfl ?_
        refine jr_aload_n ok 0 d_Mo_next_172 rfl rfl ?_
        refine jr_get (v := .int (ii S.m_to)) ok 0 f_Mo_192 rfl rfl d_Mo_next_173 ?_
        obtain ⟨r55, S55, hc55, hs⟩ := mb2_some hs
        refine jr_mV1 ok hR m_Mo_198 (c_Mo_at (jx_l X) D g S S.m_to r55 S55 hc55) rfl rfl rfl rfl (Nat.le_of_ble_eq_true rfl) ⟨Nat.le_of_ble_eq_true rfl, Nat.le_of_ble_eq_true rfl⟩ ⟨Nat.zero_le _, Nat.zero_le _⟩ d_Mo_next_176 ?_
        refine jr_bipush ok d_Mo_next_179 (by decide +kernel) ?_
        refine jr_wicmp_le 223 ok rfl (show w32 31 = 31 by decide) d_Mo_next_181 (by decide) (fun c56 => ?_) (fun c56 => ?_)
        · replace hs := oq_pos c56 hs
          exact jr_lv [0] rfl (B_223 S55 hs)
        · replace hs := oq_neg c56 hs
          refine jr_aload_n ok 0 d_Mo_next_184 rfl rfl ?_
          refine jr_aload_n ok 0 d_Mo_next_185 rfl rfl ?_
          refine jr_get (v := .int (ii S55.m_to)) ok 0 f_Mo_192 rfl rfl d_Mo_next_186 ?_
          obtain ⟨r57, S57, hc57, hs⟩ := mb2_some hs
          refine jr_mV1 ok hR m_Mo_198 (c_Mo_at (jx_l X) D g S55 S55.m_to r57 S57 hc57) rfl rfl rfl rfl (Nat.le_of_ble_eq_true rfl) ⟨Nat.le_of_ble_eq_true rfl, Nat.le_of_ble_eq_true rfl⟩ ⟨Nat.zero_le _, Nat.zero_le _⟩ d_Mo_next_189 ?_
          refine jr_bipush ok d_Mo_next_192 (by decide +kernel) ?_
          refine jr_wicmp_ge 223 ok rfl (show w32 127 = 127 by decide) d_Mo_next_194 (by decide) (fun c58 => ?_) (fun c58 => ?_)
          · replace hs := oq_pos c58 hs
            exact jr_lv [0] rfl (B_223 S57 hs)
          · replace hs := oq_neg c58 hs
            refine jr_aload_n ok 0 d_Mo_next_197 rfl rfl ?_
            refine jr_aload_n ok 0 d_Mo_next_198 rfl rfl ?_
            refine jr_get (v := .int (ii S57.m_to)) ok 0 f_Mo_192 rfl rfl d_Mo_next_199 ?_
            obtain ⟨r59, S59, hc59, hs⟩ := mb2_some hs
            refine jr_mV1 ok hR m_Mo_198 (c_Mo_at (jx_l X) D g S57 S57.m_to r59 S59 hc59) rfl rfl rfl rfl (Nat.le_of_ble_eq_true rfl) ⟨Nat.le_of_ble_eq_true rfl, Nat.le_of_ble_eq_true rfl⟩ ⟨Nat.zero_le _, Nat.zero_le _⟩ d_Mo_next_202 ?_
            refine jr_bipush ok d_Mo_next_205 (by decide +kernel) ?_
            refine jr_wicmp_eq 223 ok rfl (show w32 34 = 34 by decide) d_Mo_next_207 (by decide) (fun c60 => ?_) (fun c60 => ?_)
            · replace hs := oq_pos c60 hs
              exact jr_lv [0] rfl (B_223 S59 hs)
            · replace hs := oq_neg c60 hs
              refine jr_aload_n ok 0 d_Mo_next_210 rfl rfl ?_
              refine jr_dup rfl ok d_Mo_next_211 ?_
              refine jr_get (v := .int (ii S59.m_to)) ok 0 f_Mo_192 rfl rfl d_Mo_next_212 ?_
              refine jr_iconst ok d_Mo_next_215 ?_
              refine jr_iadd ok d_Mo_next_216 ?_
              refine jr_put (moL D g (MS.w_m_to S59 (S59.m_to + 1))) ok 0 f_Mo_192 rfl rfl rfl (Nat.le_of_ble_eq_true rfl) rfl d_Mo_next_217 ?_
              refine jr_goto 160 ok d_Mo_next_220 (by decide) ?_
              exact jr_lv [0] rfl (ih160 (MS.w_m_to S59 (S59.m_to + 1)) hs)
  have B_98 : ∀ (n98 : Nat), ∀ (S : MS), q_Mo_next_98 n98 S = some (r, S9) → jw X 0 0 (moL D g S) [(0, .ref (g 0))] 98 [] := by
    intro n98
    induction n98 with
    | zero =>
      intro S hs
      rw [q_Mo_next_98] at hs; cases hs
    | succ n98 ih98 =>
      have B_126 : ∀ (S : MS), q_Mo_next_126 (q_Mo_next_98 n98) S = some (r, S9) → jw X 0 0 (moL D g S) [(0, .ref (g 0))] 126 [] := by
        intro S hs
        rw [q_Mo_next_126] at hs
        refine jr_aload_n ok 0 d_Mo_next_126 rfl rfl ?_
        refine jr_dup rfl ok d_Mo_next_127 ?_
        refine jr_get (v := .int (ii S.m_to)) ok 0 f_Mo_192 rfl rfl d_Mo_next_128 ?_
        refine jr_iconst ok d_Mo_next_131 ?_
        refine jr_iadd ok d_Mo_next_132 ?_
        refine jr_put (moL D g (MS.w_m_to S (S.m_to + 1))) ok 0 f_Mo_192 rfl rfl rfl (Nat.le_of_ble_eq_true rfl) rfl d_Mo_next_133 ?_
        refine jr_goto 98 ok d_Mo_next_136 (by decide) ?_
        exact jr_lv [0] rfl (ih98 (MS.w_m_to S (S.m_to + 1)) hs)
      intro S hs
      rw [q_Mo_next_98] at hs
      refine jr_aload_n ok 0 d_Mo_next_98 rfl rfl ?_
      refine jr_aload_n ok 0 d_Mo_next_99 rfl rfl ?_
      refine jr_get (v := .int (ii S.m_to)) ok 0 f_Mo_192 rfl rfl d_Mo_next_100 ?_
      obtain ⟨r48, S48, hc48, hs⟩ := mb2_some hs
      refine jr_mV1 ok hR m_Mo_198 (c_Mo_at (jx_l X) D g S S.m_to r48 S48 hc48) rfl rfl rfl rfl (Nat.le_of_ble_eq_true rfl) ⟨Nat.le_of_ble_eq_true rfl, Nat.le_of_ble_eq_true rfl⟩ ⟨Nat.zero_le _, Nat.zero_le _⟩ d_Mo_next_103 ?_
      obtain ⟨r49, hc49, hs⟩ := mb1_some hs
      refine jr_mS1 ok hR m_Mo_210 (c_Mo_isLetter (jx_l X) D r48 r49 hc49) rfl rfl (Nat.le_of_ble_eq_true rfl) ⟨Nat.le_of_ble_eq_true rfl, Nat.le_of_ble_eq_true rfl⟩ ⟨Nat.zero_le _, Nat.zero_le _⟩ d_Mo_next_106 ?_
      refine jr_wif_ne 126 ok rfl d_Mo_next_109 (by decide) (fun c50 => ?_) (fun c50 => ?_)
      · replace hs := oq_neg c50 hs
        exact jr_lv [0] rfl (B_126 S48 hs)
      · replace hs := oq_pos c50 hs
        refine jr_aload_n ok 0 d_Mo_next_112 rfl rfl ?_
        refine jr_aload_n ok 0 d_Mo_next_113 rfl rfl ?_
        refine jr_get (v := .int (ii S48.m_to)) ok 0 f_Mo_192 rfl rfl d_Mo_next_114 ?_
        obtain ⟨r51, S51, hc51, hs⟩ := mb2_some hs
        refine jr_mV1 ok hR m_Mo_198 (c_Mo_at (jx_l X) D g S48 S48.m_to r51 S51 hc51) rfl rfl rfl rfl (Nat.le_of_ble_eq_true rfl) ⟨Nat.le_of_ble_eq_true rfl, Nat.le_of_ble_eq_true rfl⟩ ⟨Nat.zero_le _, Nat.zero_le _⟩ d_Mo_next_117 ?_
        obtain ⟨r52, hc52, hs⟩ := mb1_some hs
        refine jr_mS1 ok hR m_Mo_204 (c_Mo_isDigit (jx_l X) D r51 r52 hc52) rfl rfl (Nat.le_of_ble_eq_true rfl) ⟨Nat.le_of_ble_eq_true rfl, Nat.le_of_ble_eq_true rfl⟩ ⟨Nat.zero_le _, Nat.zero_le _⟩ d_Mo_next_120 ?_
        refine jr_wif_eq 275 ok rfl d_Mo_next_123 (by decide) (fun c53 => ?_) (fun c53 => ?_)
        · replace hs := oq_pos c53 hs
          refine jr_iconst ok d_Mo_next_275 ?_
          exact jm_zret (Lf := moL D g) ok (by decide +kernel) fin hs d_Mo_next_276
        · replace hs := oq_neg c53 hs
          exact jr_lv [0] rfl (B_126 S51 hs)
  have B_38 : ∀ (S : MS), q_Mo_next_38 S = some (r, S9) → jw X 0 0 (moL D g S) [(0, .ref (g 0))] 38 [] := by
    intro S hs
    rw [q_Mo_next_38] at hs
    refine jr_aload_n ok 0 d_Mo_next_38 rfl rfl ?_
    refine jr_aload_n ok 0 d_Mo_next_39 rfl rfl ?_
    refine jr_get (v := .int (ii S.m_to)) ok 0 f_Mo_192 rfl rfl d_Mo_next_40 ?_
    refine jr_put (moL D g (MS.w_m_from S S.m_to)) ok 0 f_Mo_195 rfl rfl rfl (Nat.le_of_ble_eq_true rfl) rfl d_Mo_next_43 ?_
    refine jr_aload_n ok 0 d_Mo_next_46 rfl rfl ?_
    refine jr_aload_n ok 0 d_Mo_next_47 rfl rfl ?_
    refine jr_get (v := .int (ii S.m_to)) ok 0 f_Mo_195 rfl rfl d_Mo_next_48 ?_
    obtain ⟨r36, S36, hc36, hs⟩ := mb2_some hs
    refine jr_mV1 ok hR m_Mo_198 (c_Mo_at (jx_l X) D g (MS.w_m_from S S.m_to) S.m_to r36 S36 hc36) rfl rfl rfl rfl (Nat.le_of_ble_eq_true rfl) ⟨Nat.le_of_ble_eq_true rfl, Nat.le_of_ble_eq_true rfl⟩ ⟨Nat.zero_le _, Nat.zero_le _⟩ d_Mo_next_51 ?_
    refine jr_istore_n [(1, .int (ii r36)), (0, .ref (g 0))] ok d_Mo_next_54 rfl (by rw [hN]; decide) rfl ?_
    refine jr_aload_n ok 1 d_Mo_next_55 rfl rfl ?_
    refine jr_get (v := .int (ii S36.m_from)) ok 0 f_Mo_195 rfl rfl d_Mo_next_56 ?_
    refine jr_aload_n ok 1 d_Mo_next_59 rfl rfl ?_
    refine jr_get (v := .int (ii S36.m_length)) ok 0 f_Mo_105 rfl rfl d_Mo_next_60 ?_
    refine jr_wicmp_lt 74 ok rfl rfl d_Mo_next_63 (by decide) (fun c37 => ?_) (fun c37 => ?_)
    · replace hs := oq_pos c37 hs
      refine jr_iload_n ok 0 d_Mo_next_74 rfl rfl ?_
      obtain ⟨r38, hc38, hs⟩ := mb1_some hs
      refine jr_mS1 ok hR m_Mo_204 (c_Mo_isDigit (jx_l X) D r36 r38 hc38) rfl rfl (Nat.le_of_ble_eq_true rfl) ⟨Nat.le_of_ble_eq_true rfl, Nat.le_of_ble_eq_true rfl⟩ ⟨Nat.zero_le _, Nat.zero_le _⟩ d_Mo_next_75 ?_
      refine jr_wif_eq 86 ok rfl d_Mo_next_78 (by decide) (fun c39 => ?_) (fun c39 => ?_)
      · replace hs := oq_pos c39 hs
        refine jr_iload_n ok 0 d_Mo_next_86 rfl rfl ?_
        obtain ⟨r40, hc40, hs⟩ := mb1_some hs
        refine jr_mS1 ok hR m_Mo_210 (c_Mo_isLetter (jx_l X) D r36 r40 hc40) rfl rfl (Nat.le_of_ble_eq_true rfl) ⟨Nat.le_of_ble_eq_true rfl, Nat.le_of_ble_eq_true rfl⟩ ⟨Nat.zero_le _, Nat.zero_le _⟩ d_Mo_next_87 ?_
        refine jr_wif_eq 139 ok rfl d_Mo_next_90 (by decide) (fun c41 => ?_) (fun c41 => ?_)
        · replace hs := oq_pos c41 hs
          refine jr_iload_n ok 0 d_Mo_next_139 rfl rfl ?_
          refine jr_bipush ok d_Mo_next_140 (by decide +kernel) ?_
          refine jr_wicmp_ne 259 ok rfl (show w32 34 = 34 by decide) d_Mo_next_142 (by decide) (fun c42 => ?_) (fun c42 => ?_)
          · replace hs := oq_neg c42 hs
            refine jr_aload_n ok 1 d_Mo_next_259 rfl rfl ?_
            refine jr_iload_n ok 0 d_Mo_next_260 rfl rfl ?_
            refine jr_aload_n ok 1 d_Mo_next_261 rfl rfl ?_
            refine jr_aload_n ok 1 d_Mo_next_262 rfl rfl ?_
            refine jr_get (v := .int (ii S36.m_from)) ok 0 f_Mo_195 rfl rfl d_Mo_next_263 ?_
            refine jr_iconst ok d_Mo_next_266 ?_
            refine jr_iadd ok d_Mo_next_267 ?_
            obtain ⟨r43, S43, hc43, hs⟩ := mb2_some hs
            refine jr_mV1 ok hR m_Mo_198 (c_Mo_at (jx_l X) D g S36 (S36.m_from + 1) r43 S43 hc43) rfl rfl rfl rfl (Nat.le_of_ble_eq_true rfl) ⟨Nat.le_of_ble_eq_true rfl, Nat.le_of_ble_eq_true rfl⟩ ⟨Nat.zero_le _, Nat.zero_le _⟩ d_Mo_next_268 ?_
            obtain ⟨r44, S44, hc44, hs⟩ := mb2_some hs
            refine jr_mV1 ok hR m_Mo_213 (c_Mo_readSign (jx_l X) D g S43 r36 r43 r44 S44 hc44) rfl rfl rfl rfl (Nat.le_of_ble_eq_true rfl) ⟨Nat.le_of_ble_eq_true rfl, Nat.le_of_ble_eq_true rfl⟩ ⟨Nat.zero_le _, Nat.zero_le _⟩ d_Mo_next_271 ?_
            obtain ⟨hb45, hs⟩ := oq_if hs
            exact jm_zret (Lf := moL D g) ok (nz_b hb45) fin hs d_Mo_next_274
          · replace hs := oq_pos c42 hs
            refine jr_aload_n ok 1 d_Mo_next_145 rfl rfl ?_
            refine jr_iconst ok d_Mo_next_146 ?_
            refine jr_put (moL D g (MS.w_m_kind S36 3)) ok 0 f_Mo_201 rfl rfl rfl (Nat.le_of_ble_eq_true rfl) rfl d_Mo_next_147 ?_
            refine jr_aload_n ok 1 d_Mo_next_150 rfl rfl ?_
            refine jr_dup rfl ok d_Mo_next_151 ?_
            refine jr_get (v := .int (ii S36.m_to)) ok 0 f_Mo_192 rfl rfl d_Mo_next_152 ?_
            refine jr_iconst ok d_Mo_next_155 ?_
            refine jr_iadd ok d_Mo_next_156 ?_
            refine jr_put (moL D g (MS.w_m_to (MS.w_m_kind S36 3) (S36.m_to + 1))) ok 0 f_Mo_192 rfl rfl rfl (Nat.le_of_ble_eq_true rfl) rfl d_Mo_next_157 ?_
            exact jr_lv [1] rfl (B_160 fU (MS.w_m_to (MS.w_m_kind S36 3) (S36.m_to + 1)) hs)
        · replace hs := oq_neg c41 hs
          refine jr_aload_n ok 1 d_Mo_next_93 rfl rfl ?_
          refine jr_iconst ok d_Mo_next_94 ?_
          refine jr_put (moL D g (MS.w_m_kind S36 2)) ok 0 f_Mo_201 rfl rfl rfl (Nat.le_of_ble_eq_true rfl) rfl d_Mo_next_95 ?_
          exact jr_lv [1] rfl (B_98 fU (MS.w_m_kind S36 2) hs)
      · replace hs := oq_neg c39 hs
        refine jr_aload_n ok 1 d_Mo_next_81 rfl rfl ?_
        obtain ⟨r46, S46, hc46, hs⟩ := mb2_some hs
        refine jr_mV1 ok hR m_Mo_207 (c_Mo_readNumber (jx_l X) D g S36  r46 S46 hc46) rfl rfl rfl rfl (Nat.le_of_ble_eq_true rfl) ⟨Nat.le_of_ble_eq_true rfl, Nat.le_of_ble_eq_true rfl⟩ ⟨Nat.zero_le _, Nat.zero_le _⟩ d_Mo_next_82 ?_
        obtain ⟨hb47, hs⟩ := oq_if hs
        exact jm_zret (Lf := moL D g) ok (nz_b hb47) fin hs d_Mo_next_85
    · replace hs := oq_neg c37 hs
      refine jr_aload_n ok 1 d_Mo_next_66 rfl rfl ?_
      refine jr_iconst ok d_Mo_next_67 ?_
      refine jr_put (moL D g (MS.w_m_kind S36 0)) ok 0 f_Mo_201 rfl rfl rfl (Nat.le_of_ble_eq_true rfl) rfl d_Mo_next_68 ?_
      refine jr_goto 275 ok d_Mo_next_71 (by decide) ?_
      refine jr_iconst ok d_Mo_next_275 ?_
      exact jm_zret (Lf := moL D g) ok (by decide +kernel) fin hs d_Mo_next_276
  have B_0 : ∀ (n0 : Nat), ∀ (S : MS), q_Mo_next_0 n0 S = some (r, S9) → jw X 0 0 (moL D g S) [(0, .ref (g 0))] 0 [] := by
    intro n0
    induction n0 with
    | zero =>
      intro S hs
      rw [q_Mo_next_0] at hs; cases hs
    | succ n0 ih0 =>
      intro S hs
      rw [q_Mo_next_0] at hs
      refine jr_aload_n ok 0 d_Mo_next_0 rfl rfl ?_
      refine jr_get (v := .int (ii S.m_to)) ok 0 f_Mo_192 rfl rfl d_Mo_next_1 ?_
      refine jr_aload_n ok 0 d_Mo_next_4 rfl rfl ?_
      refine jr_get (v := .int (ii S.m_length)) ok 0 f_Mo_105 rfl rfl d_Mo_next_5 ?_
      refine jr_wicmp_ge 38 ok rfl rfl d_Mo_next_8 (by decide) (fun c33 => ?_) (fun c33 => ?_)
      · replace hs := oq_pos c33 hs
        exact jr_lv [0] rfl (B_38 S hs)
      · replace hs := oq_neg c33 hs
        refine jr_aload_n ok 0 d_Mo_next_11 rfl rfl ?_
        refine jr_get (v := .ref (g 1)) ok 0 f_Mo_8 rfl rfl d_Mo_next_12 ?_
        refine jr_aload_n ok 0 d_Mo_next_15 rfl rfl ?_
        refine jr_get (v := .int (ii S.m_to)) ok 0 f_Mo_192 rfl rfl d_Mo_next_16 ?_
        obtain ⟨hb34, hs⟩ := oq_if hs
        refine jr_bald ok 1 rfl rfl hb34.1 hb34.2 d_Mo_next_19 ?_
        refine jr_bipush ok d_Mo_next_20 (by decide +kernel) ?_
        refine jr_wicmp_ne 38 ok rfl (show w32 32 = 32 by decide) d_Mo_next_22 (by decide) (fun c35 => ?_) (fun c35 => ?_)
        · replace hs := oq_neg c35 hs
          exact jr_lv [0] rfl (B_38 S hs)
        · replace hs := oq_pos c35 hs
          refine jr_aload_n ok 0 d_Mo_next_25 rfl rfl ?_
          refine jr_dup rfl ok d_Mo_next_26 ?_
          refine jr_get (v := .int (ii S.m_to)) ok 0 f_Mo_192 rfl rfl d_Mo_next_27 ?_
          refine jr_iconst ok d_Mo_next_30 ?_
          refine jr_iadd ok d_Mo_next_31 ?_
          refine jr_put (moL D g (MS.w_m_to S (S.m_to + 1))) ok 0 f_Mo_192 rfl rfl rfl (Nat.le_of_ble_eq_true rfl) rfl d_Mo_next_32 ?_
          refine jr_goto 0 ok d_Mo_next_35 (by decide) ?_
          exact jr_lv [0] rfl (ih0 (MS.w_m_to S (S.m_to + 1)) hs)
  show jw X 0 0 (moL D g S) [(0, .ref (g 0))] 0 []
  rw [s_Mo_next] at hs
  exact jr_lv [0] rfl (B_0 fU S hs)

def q_Mo_delete_103 (v1 : Int) (v2 : Int64) (v4 : Int64) (v6 : Int) (t0 : Int) (t1 : Int) (S : MS) : Option (Int × MS) := mb2 (s_Mo_go (MS.w_m_scars S (t1 + t0)) v1 v2 v4) (fun r19 S19 => some (v6, S19))

def q_Mo_delete_88 (v1 : Int) (v2 : Int64) (v4 : Int64) (v6 : Int) (v7 : Int) (S : MS) : Option (Int × MS) := if w32 v7 = 0 then q_Mo_delete_103 v1 v2 v4 v6 0 S.m_scars S else q_Mo_delete_103 v1 v2 v4 v6 1 S.m_scars S

def q_Mo_delete_65 (v1 : Int) (v2 : Int64) (v4 : Int64) (v6 : Int) (t0 : Int) (S : MS) : Option (Int × MS) := if w32 t0 = 0 then q_Mo_delete_88 v1 v2 v4 v6 t0 S else if w32 S.m_scars = 64 then some (0, MS.w_m_code S 3) else q_Mo_delete_88 v1 v2 v4 v6 t0 S

def q_Mo_delete_25 (v1 : Int) (v2 : Int64) (v4 : Int64) (t0 : Int) (S : MS) : Option (Int × MS) := if w32 t0 ≤ 0 then mb2 (s_Mo_between (MS.w_m_code S t0) v1 v2 v4 0) (fun r13 S13 => mb2 (s_Mo_between S13 v1 v2 v4 1) (fun r14 S14 => if w32 r14 ≤ 0 then q_Mo_delete_65 v1 v2 v4 r13 0 S14 else q_Mo_delete_65 v1 v2 v4 r13 1 S14)) else some (0, MS.w_m_code S t0)

def s_Mo_delete (S : MS) (v1 : Int) (v2 : Int64) (v4 : Int64) : Option (Int × MS) := mb2 (s_Mo_isSeries S v1) (fun r20 S20 => if w32 r20 = 0 then q_Mo_delete_25 v1 v2 v4 1 S20 else if v2.toInt ≤ v4.toInt then q_Mo_delete_25 v1 v2 v4 0 S20 else q_Mo_delete_25 v1 v2 v4 2 S20)
set_option maxHeartbeats 4000000 in
set_option maxRecDepth 100000 in
theorem c_Mo_delete (l : Launch) (D : jd_T) (g : Nat → Nat) (S : MS) (v1 : Int) (v2 : Int64) (v4 : Int64) (r : Int) (S9 : MS) (hs : s_Mo_delete S v1 v2 v4 = some (r, S9)) : jc_C l D y_Mo_delete b_Mo_delete 8 (some .int) { frames := 2, cells := 0, slots := 0, locals := 49 } [.ref (g 0), .int (ii v1), .long v2, .long v4] (moL D g S) (fun _ : Unit => (.returned (some (.int (ii r))), True, (moL D g S9))) := by
  refine jc_of rfl (Nat.le_of_ble_eq_true rfl) ?_
  intro X hl hR hN ok hnm fin
  subst hl
  have B_103 : ∀ (v1 : Int) (v2 : Int64) (v4 : Int64) (v6 : Int) (t0 : Int) (t1 : Int) (S : MS), q_Mo_delete_103 v1 v2 v4 v6 t0 t1 S = some (r, S9) → jw X 0 0 (moL D g S) [(0, .ref (g 0)), (1, .int (ii v1)), (2, .long v2), (4, .long v4), (6, .int (ii v6))] 103 [.int (ii t0), .int (ii t1), .ref (g 0)] := by
    intro v1 v2 v4 v6 t0 t1 S hs
    rw [q_Mo_delete_103] at hs
    refine jr_iadd ok d_Mo_delete_103 ?_
    refine jr_put (moL D g (MS.w_m_scars S (t1 + t0))) ok 0 f_Mo_183 rfl rfl rfl (Nat.le_of_ble_eq_true rfl) rfl d_Mo_delete_104 ?_
    refine jr_aload_n ok 0 d_Mo_delete_107 rfl rfl ?_
    refine jr_iload_n ok 1 d_Mo_delete_108 rfl rfl ?_
    refine jr_lload_n ok 2 d_Mo_delete_109 rfl rfl ?_
    refine jr_lload ok 3 d_Mo_delete_110 rfl ?_
    obtain ⟨r19, S19, hc19, hs⟩ := mb2_some hs
    refine jr_mV0 ok hR m_Mo_186 (c_Mo_go (jx_l X) D g (MS.w_m_scars S (t1 + t0)) v1 v2 v4 r19 S19 hc19) rfl rfl rfl rfl (Nat.le_of_ble_eq_true rfl) ⟨Nat.le_of_ble_eq_true rfl, Nat.le_of_ble_eq_true rfl⟩ ⟨Nat.zero_le _, Nat.zero_le _⟩ d_Mo_delete_112 ?_
    refine jr_iload ok 4 d_Mo_delete_115 rfl ?_
    exact jm_iret (Lf := moL D g) ok fin hs d_Mo_delete_117
  have B_88 : ∀ (v1 : Int) (v2 : Int64) (v4 : Int64) (v6 : Int) (v7 : Int) (S : MS), q_Mo_delete_88 v1 v2 v4 v6 v7 S = some (r, S9) → jw X 0 0 (moL D g S) [(0, .ref (g 0)), (1, .int (ii v1)), (2, .long v2), (4, .long v4), (6, .int (ii v6)), (7, .int (ii v7))] 88 [] := by
    intro v1 v2 v4 v6 v7 S hs
    rw [q_Mo_delete_88] at hs
    refine jr_aload_n ok 0 d_Mo_delete_88 rfl rfl ?_
    refine jr_dup rfl ok d_Mo_delete_89 ?_
    refine jr_get (v := .int (ii S.m_scars)) ok 0 f_Mo_183 rfl rfl d_Mo_delete_90 ?_
    refine jr_iload ok 5 d_Mo_delete_93 rfl ?_
    refine jr_wif_eq 102 ok rfl d_Mo_delete_95 (by decide) (fun c18 => ?_) (fun c18 => ?_)
    · replace hs := oq_pos c18 hs
      refine jr_iconst ok d_Mo_delete_102 ?_
      exact jr_lv [0, 1, 2, 3, 4] rfl (B_103 v1 v2 v4 v6 0 S.m_scars S hs)
    · replace hs := oq_neg c18 hs
      refine jr_iconst ok d_Mo_delete_98 ?_
      refine jr_goto 103 ok d_Mo_delete_99 (by decide) ?_
      exact jr_lv [0, 1, 2, 3, 4] rfl (B_103 v1 v2 v4 v6 1 S.m_scars S hs)
  have B_65 : ∀ (v1 : Int) (v2 : Int64) (v4 : Int64) (v6 : Int) (t0 : Int) (S : MS), q_Mo_delete_65 v1 v2 v4 v6 t0 S = some (r, S9) → jw X 0 0 (moL D g S) [(0, .ref (g 0)), (1, .int (ii v1)), (2, .long v2), (4, .long v4), (6, .int (ii v6))] 65 [.int (ii t0)] := by
    intro v1 v2 v4 v6 t0 S hs
    rw [q_Mo_delete_65] at hs
    refine jr_istore [(7, .int (ii t0)), (0, .ref (g 0)), (1, .int (ii v1)), (2, .long v2), (4, .long v4), (6, .int (ii v6))] ok d_Mo_delete_65 (by rw [hN]; decide) rfl ?_
    refine jr_iload ok 0 d_Mo_delete_67 rfl ?_
    refine jr_wif_eq 88 ok rfl d_Mo_delete_69 (by decide) (fun c16 => ?_) (fun c16 => ?_)
    · replace hs := oq_pos c16 hs
      exact jr_lv [1, 2, 3, 4, 5, 0] rfl (B_88 v1 v2 v4 v6 t0 S hs)
    · replace hs := oq_neg c16 hs
      refine jr_aload_n ok 1 d_Mo_delete_72 rfl rfl ?_
      refine jr_get (v := .int (ii S.m_scars)) ok 0 f_Mo_183 rfl rfl d_Mo_delete_73 ?_
      refine jr_bipush ok d_Mo_delete_76 (by decide +kernel) ?_
      refine jr_wicmp_ne 88 ok rfl (show w32 64 = 64 by decide) d_Mo_delete_78 (by decide) (fun c17 => ?_) (fun c17 => ?_)
      · replace hs := oq_neg c17 hs
        exact jr_lv [1, 2, 3, 4, 5, 0] rfl (B_88 v1 v2 v4 v6 t0 S hs)
      · replace hs := oq_pos c17 hs
        refine jr_aload_n ok 1 d_Mo_delete_81 rfl rfl ?_
        refine jr_iconst ok d_Mo_delete_82 ?_
        refine jr_put (moL D g (MS.w_m_code S 3)) ok 0 f_Mo_101 rfl rfl rfl (Nat.le_of_ble_eq_true rfl) rfl d_Mo_delete_83 ?_
        refine jr_iconst ok d_Mo_delete_86 ?_
        exact jm_iret (Lf := moL D g) ok fin hs d_Mo_delete_87
  have B_25 : ∀ (v1 : Int) (v2 : Int64) (v4 : Int64) (t0 : Int) (S : MS), q_Mo_delete_25 v1 v2 v4 t0 S = some (r, S9) → jw X 0 0 (moL D g S) [(0, .ref (g 0)), (1, .int (ii v1)), (2, .long v2), (4, .long v4)] 25 [.int (ii t0), .ref (g 0)] := by
    intro v1 v2 v4 t0 S hs
    rw [q_Mo_delete_25] at hs
    refine jr_put (moL D g (MS.w_m_code S t0)) ok 0 f_Mo_101 rfl rfl rfl (Nat.le_of_ble_eq_true rfl) rfl d_Mo_delete_25 ?_
    refine jr_aload_n ok 0 d_Mo_delete_28 rfl rfl ?_
    refine jr_get (v := .int (ii t0)) ok 0 f_Mo_101 rfl rfl d_Mo_delete_29 ?_
    refine jr_wif_le 37 ok rfl d_Mo_delete_32 (by decide) (fun c12 => ?_) (fun c12 => ?_)
    · replace hs := oq_pos c12 hs
      refine jr_aload_n ok 0 d_Mo_delete_37 rfl rfl ?_
      refine jr_iload_n ok 1 d_Mo_delete_38 rfl rfl ?_
      refine jr_lload_n ok 2 d_Mo_delete_39 rfl rfl ?_
      refine jr_lload ok 3 d_Mo_delete_40 rfl ?_
      refine jr_iconst ok d_Mo_delete_42 ?_
      obtain ⟨r13, S13, hc13, hs⟩ := mb2_some hs
      refine jr_mV1 ok hR m_Mo_179 (c_Mo_between (jx_l X) D g (MS.w_m_code S t0) v1 v2 v4 0 r13 S13 hc13) rfl rfl rfl rfl (Nat.le_of_ble_eq_true rfl) ⟨Nat.le_of_ble_eq_true rfl, Nat.le_of_ble_eq_true rfl⟩ ⟨Nat.zero_le _, Nat.zero_le _⟩ d_Mo_delete_43 ?_
      refine jr_istore [(6, .int (ii r13)), (0, .ref (g 0)), (1, .int (ii v1)), (2, .long v2), (4, .long v4)] ok d_Mo_delete_46 (by rw [hN]; decide) rfl ?_
      refine jr_aload_n ok 1 d_Mo_delete_48 rfl rfl ?_
      refine jr_iload_n ok 2 d_Mo_delete_49 rfl rfl ?_
      refine jr_lload_n ok 3 d_Mo_delete_50 rfl rfl ?_
      refine jr_lload ok 4 d_Mo_delete_51 rfl ?_
      refine jr_iconst ok d_Mo_delete_53 ?_
      obtain ⟨r14, S14, hc14, hs⟩ := mb2_some hs
      refine jr_mV1 ok hR m_Mo_179 (c_Mo_between (jx_l X) D g S13 v1 v2 v4 1 r14 S14 hc14) rfl rfl rfl rfl (Nat.le_of_ble_eq_true rfl) ⟨Nat.le_of_ble_eq_true rfl, Nat.le_of_ble_eq_true rfl⟩ ⟨Nat.zero_le _, Nat.zero_le _⟩ d_Mo_delete_54 ?_
      refine jr_wif_le 64 ok rfl d_Mo_delete_57 (by decide) (fun c15 => ?_) (fun c15 => ?_)
      · replace hs := oq_pos c15 hs
        refine jr_iconst ok d_Mo_delete_64 ?_
        exact jr_lv [1, 2, 3, 4, 0] rfl (B_65 v1 v2 v4 r13 0 S14 hs)
      · replace hs := oq_neg c15 hs
        refine jr_iconst ok d_Mo_delete_60 ?_
        refine jr_goto 65 ok d_Mo_delete_61 (by decide) ?_
        exact jr_lv [1, 2, 3, 4, 0] rfl (B_65 v1 v2 v4 r13 1 S14 hs)
    · replace hs := oq_neg c12 hs
      refine jr_iconst ok d_Mo_delete_35 ?_
      exact jm_iret (Lf := moL D g) ok fin hs d_Mo_delete_36
  show jw X 0 0 (moL D g S) [(0, .ref (g 0)), (1, .int (ii v1)), (2, .long v2), (4, .long v4)] 0 []
  rw [s_Mo_delete] at hs
  refine jr_aload_n ok 0 d_Mo_delete_0 rfl rfl ?_
  refine jr_aload_n ok 0 d_Mo_delete_1 rfl rfl ?_
  refine jr_iload_n ok 1 d_Mo_delete_2 rfl rfl ?_
  obtain ⟨r20, S20, hc20, hs⟩ := mb2_some hs
  refine jr_mV1 ok hR m_Mo_149 (c_Mo_isSeries (jx_l X) D g S v1 r20 S20 hc20) rfl rfl rfl rfl (Nat.le_of_ble_eq_true rfl) ⟨Nat.le_of_ble_eq_true rfl, Nat.le_of_ble_eq_true rfl⟩ ⟨Nat.zero_le _, Nat.zero_le _⟩ d_Mo_delete_3 ?_
  refine jr_wif_ne 13 ok rfl d_Mo_delete_6 (by decide) (fun c21 => ?_) (fun c21 => ?_)
  · replace hs := oq_neg c21 hs
    refine jr_lload_n ok 2 d_Mo_delete_13 rfl rfl ?_
    refine jr_lload ok 3 d_Mo_delete_14 rfl ?_
    refine jr_lif_le 24 ok rfl rfl d_Mo_delete_16 d_Mo_delete_17 (by decide) (fun c22 => ?_) (fun c22 => ?_)
    · replace hs := oq_pos c22 hs
      refine jr_iconst ok d_Mo_delete_24 ?_
      exact jr_lv [0, 1, 2, 3] rfl (B_25 v1 v2 v4 0 S20 hs)
    · replace hs := oq_neg c22 hs
      refine jr_iconst ok d_Mo_delete_20 ?_
      refine jr_goto 25 ok d_Mo_delete_21 (by decide) ?_
      exact jr_lv [0, 1, 2, 3] rfl (B_25 v1 v2 v4 2 S20 hs)
  · replace hs := oq_pos c21 hs
    refine jr_iconst ok d_Mo_delete_9 ?_
    refine jr_goto 25 ok d_Mo_delete_10 (by decide) ?_
    exact jr_lv [0, 1, 2, 3] rfl (B_25 v1 v2 v4 1 S20 hs)

def q_Mo_meet_164 (k6 : Int → Int → Int → Int → Int → MS → Option (Unit × MS)) (v1 : Int) (v2 : Int) (v3 : Int) (v4 : Int) (v5 : Int) (S : MS) : Option (Unit × MS) := k6 v1 v2 v3 v4 (v5 + 1) S

def q_Mo_meet_88 (k6 : Int → Int → Int → Int → Int → MS → Option (Unit × MS)) : Nat → Int → Int → Int → Int → Int → Int → Int → MS → Option (Unit × MS)
  | 0, _, _, _, _, _, _, _, _ => none
  | n + 1, v1, v2, v3, v4, v5, v6, v7, S => if w32 S.m_windows ≤ w32 v7 then if (0 : Int) ≤ ((256 * v2) + v5) ∧ ((256 * v2) + v5) < (5120 : Int) then if (0 : Int) ≤ ((256 * v2) + v4) ∧ ((256 * v2) + v4) < (5120 : Int) then q_Mo_meet_164 k6 v1 v2 v3 (v4 + 1) v5 (MS.w_m_rowSeries S (aU S.m_rowSeries ((256 * v2) + v4) (S.m_rowSeries ((256 * v2) + v5)))) else none else none else mb2 (s_Mo_cellAt S v2 v4 v7) (fun r33 S33 => mb2 (s_Mo_cellAt S33 v2 v5 v7) (fun r34 S34 => mb2 (s_Mo_cellAt S34 v3 v6 v7) (fun r35 S35 => mb2 (s_Mo_join S35 v1 r33 r34 r35) (fun r36 S36 => (q_Mo_meet_88 k6 n) v1 v2 v3 v4 v5 v6 (v7 + 1) S36))))

def q_Mo_meet_71 (k6 : Int → Int → Int → Int → Int → MS → Option (Unit × MS)) (v1 : Int) (v2 : Int) (v3 : Int) (v4 : Int) (v5 : Int) (v6 : Int) (S : MS) : Option (Unit × MS) := if (0 : Int) ≤ v3 ∧ v3 < (20 : Int) then if w32 v6 = w32 (S.m_tableRows v3) then q_Mo_meet_164 k6 v1 v2 v3 v4 v5 S else q_Mo_meet_88 k6 fU v1 v2 v3 v4 v5 v6 0 S else none

def q_Mo_meet_20 (k6 : Int → Int → Int → Int → Int → MS → Option (Unit × MS)) : Nat → Int → Int → Int → Int → Int → Int → MS → Option (Unit × MS)
  | 0, _, _, _, _, _, _, _ => none
  | n + 1, v1, v2, v3, v4, v5, v6, S => if (0 : Int) ≤ v3 ∧ v3 < (20 : Int) then if w32 (S.m_tableRows v3) ≤ w32 v6 then q_Mo_meet_71 k6 v1 v2 v3 v4 v5 v6 S else if (0 : Int) ≤ ((256 * v2) + v5) ∧ ((256 * v2) + v5) < (5120 : Int) then if (0 : Int) ≤ ((256 * v3) + v6) ∧ ((256 * v3) + v6) < (5120 : Int) then mb2 (s_Mo_compareRows S v2 (S.m_rowSeries ((256 * v2) + v5)) (S.m_rowSeries ((256 * v3) + v6))) (fun r26 S26 => if w32 r26 = 0 then q_Mo_meet_71 k6 v1 v2 v3 v4 v5 v6 S26 else (q_Mo_meet_20 k6 n) v1 v2 v3 v4 v5 (v6 + 1) S26) else none else none else none

def q_Mo_meet_6 : Nat → Int → Int → Int → Int → Int → MS → Option (Unit × MS)
  | 0, _, _, _, _, _, _ => none
  | n + 1, v1, v2, v3, v4, v5, S => if (0 : Int) ≤ v2 ∧ v2 < (20 : Int) then if w32 (S.m_tableRows v2) ≤ w32 v5 then if (0 : Int) ≤ v2 ∧ v2 < (20 : Int) then some ((), MS.w_m_tableRows S (aU S.m_tableRows v2 v4)) else none else q_Mo_meet_20 (q_Mo_meet_6 n) fU v1 v2 v3 v4 v5 0 S else none

def s_Mo_meet (S : MS) (v1 : Int) (v2 : Int) (v3 : Int) : Option (Unit × MS) := q_Mo_meet_6 fU v1 v2 v3 0 0 S
set_option maxHeartbeats 4000000 in
set_option maxRecDepth 100000 in
theorem c_Mo_meet (l : Launch) (D : jd_T) (g : Nat → Nat) (S : MS) (v1 : Int) (v2 : Int) (v3 : Int) (r : Unit) (S9 : MS) (hs : s_Mo_meet S v1 v2 v3 = some (r, S9)) : jc_C l D y_Mo_meet b_Mo_meet 8 none { frames := 2, cells := 0, slots := 0, locals := 58 } [.ref (g 0), .int (ii v1), .int (ii v2), .int (ii v3)] (moL D g S) (fun _ : Unit => (.returned (none), True, (moL D g S9))) := by
  refine jc_of rfl (Nat.le_of_ble_eq_true rfl) ?_
  intro X hl hR hN ok hnm fin
  subst hl
  have B_6 : ∀ (n6 : Nat), ∀ (v1 : Int) (v2 : Int) (v3 : Int) (v4 : Int) (v5 : Int) (S : MS), q_Mo_meet_6 n6 v1 v2 v3 v4 v5 S = some (r, S9) → jw X 0 0 (moL D g S) [(0, .ref (g 0)), (1, .int (ii v1)), (2, .int (ii v2)), (3, .int (ii v3)), (4, .int (ii v4)), (5, .int (ii v5))] 6 [] := by
    intro n6
    induction n6 with
    | zero =>
      intro v1 v2 v3 v4 v5 S hs
      rw [q_Mo_meet_6] at hs; cases hs
    | succ n6 ih6 =>
      have B_164 : ∀ (v1 : Int) (v2 : Int) (v3 : Int) (v4 : Int) (v5 : Int) (S : MS), q_Mo_meet_164 (q_Mo_meet_6 n6) v1 v2 v3 v4 v5 S = some (r, S9) → jw X 0 0 (moL D g S) [(0, .ref (g 0)), (1, .int (ii v1)), (2, .int (ii v2)), (3, .int (ii v3)), (4, .int (ii v4)), (5, .int (ii v5))] 164 [] := by
        intro v1 v2 v3 v4 v5 S hs
        rw [q_Mo_meet_164] at hs
        refine jr_iinc [(5, .int (ii (v5 + 1))), (0, .ref (g 0)), (1, .int (ii v1)), (2, .int (ii v2)), (3, .int (ii v3)), (4, .int (ii v4))] 5 ok d_Mo_meet_164 rfl (by rw [hN]; decide) rfl ?_
        refine jr_goto 6 ok d_Mo_meet_167 (by decide) ?_
        exact jr_lv [1, 2, 3, 4, 5, 0] rfl (ih6 v1 v2 v3 v4 (v5 + 1) S hs)
      have B_88 : ∀ (n88 : Nat), ∀ (v1 : Int) (v2 : Int) (v3 : Int) (v4 : Int) (v5 : Int) (v6 : Int) (v7 : Int) (S : MS), q_Mo_meet_88 (q_Mo_meet_6 n6) n88 v1 v2 v3 v4 v5 v6 v7 S = some (r, S9) → jw X 0 0 (moL D g S) [(0, .ref (g 0)), (1, .int (ii v1)), (2, .int (ii v2)), (3, .int (ii v3)), (4, .int (ii v4)), (5, .int (ii v5)), (6, .int (ii v6)), (7, .int (ii v7))] 88 [] := by
        intro n88
        induction n88 with
        | zero =>
          intro v1 v2 v3 v4 v5 v6 v7 S hs
          rw [q_Mo_meet_88] at hs; cases hs
        | succ n88 ih88 =>
          intro v1 v2 v3 v4 v5 v6 v7 S hs
          rw [q_Mo_meet_88] at hs
          refine jr_iload ok 7 d_Mo_meet_88 rfl ?_
          refine jr_aload_n ok 0 d_Mo_meet_90 rfl rfl ?_
          refine jr_get (v := .int (ii S.m_windows)) ok 0 f_Mo_234 rfl rfl d_Mo_meet_91 ?_
          refine jr_wicmp_ge 135 ok rfl rfl d_Mo_meet_94 (by decide) (fun c30 => ?_) (fun c30 => ?_)
          · replace hs := oq_pos c30 hs
            refine jr_aload_n ok 0 d_Mo_meet_135 rfl rfl ?_
            refine jr_get (v := .ref (g 14)) ok 0 f_Mo_53 rfl rfl d_Mo_meet_136 ?_
            refine jr_sipush ok d_Mo_meet_139 (by decide +kernel) ?_
            refine jr_iload_n ok 2 d_Mo_meet_142 rfl rfl ?_
            refine jr_imul ok d_Mo_meet_143 ?_
            refine jr_iload ok 4 d_Mo_meet_144 rfl ?_
            refine jr_iadd ok d_Mo_meet_146 ?_
            refine jr_aload_n ok 0 d_Mo_meet_147 rfl rfl ?_
            refine jr_get (v := .ref (g 14)) ok 0 f_Mo_53 rfl rfl d_Mo_meet_148 ?_
            refine jr_sipush ok d_Mo_meet_151 (by decide +kernel) ?_
            refine jr_iload_n ok 2 d_Mo_meet_154 rfl rfl ?_
            refine jr_imul ok d_Mo_meet_155 ?_
            refine jr_iload ok 5 d_Mo_meet_156 rfl ?_
            refine jr_iadd ok d_Mo_meet_158 ?_
            obtain ⟨hb31, hs⟩ := oq_if hs
            refine jr_iald ok 14 rfl rfl hb31.1 hb31.2 d_Mo_meet_159 ?_
            obtain ⟨hb32, hs⟩ := oq_if hs
            refine jr_iast (moL D g (MS.w_m_rowSeries S (aU S.m_rowSeries ((256 * v2) + v4) (S.m_rowSeries ((256 * v2) + v5))))) ok 14 rfl rfl hb32.1 hb32.2  rfl d_Mo_meet_160 ?_
            refine jr_iinc [(4, .int (ii (v4 + 1))), (0, .ref (g 0)), (1, .int (ii v1)), (2, .int (ii v2)), (3, .int (ii v3)), (5, .int (ii v5)), (6, .int (ii v6)), (7, .int (ii v7))] 4 ok d_Mo_meet_161 rfl (by rw [hN]; decide) rfl ?_
            exact jr_lv [1, 2, 3, 4, 0, 5] rfl (B_164 v1 v2 v3 (v4 + 1) v5 (MS.w_m_rowSeries S (aU S.m_rowSeries ((256 * v2) + v4) (S.m_rowSeries ((256 * v2) + v5)))) hs)
          · replace hs := oq_neg c30 hs
            refine jr_aload_n ok 0 d_Mo_meet_97 rfl rfl ?_
            refine jr_iload_n ok 1 d_Mo_meet_98 rfl rfl ?_
            refine jr_aload_n ok 0 d_Mo_meet_99 rfl rfl ?_
            refine jr_iload_n ok 2 d_Mo_meet_100 rfl rfl ?_
            refine jr_iload ok 4 d_Mo_meet_101 rfl ?_
            refine jr_iload ok 7 d_Mo_meet_103 rfl ?_
            obtain ⟨r33, S33, hc33, hs⟩ := mb2_some hs
            refine jr_mV1 ok hR m_Mo_250 (c_Mo_cellAt (jx_l X) D g S v2 v4 v7 r33 S33 hc33) rfl rfl rfl rfl (Nat.le_of_ble_eq_true rfl) ⟨Nat.le_of_ble_eq_true rfl, Nat.le_of_ble_eq_true rfl⟩ ⟨Nat.zero_le _, Nat.zero_le _⟩ d_Mo_meet_105 ?_
            refine jr_aload_n ok 0 d_Mo_meet_108 rfl rfl ?_
            refine jr_iload_n ok 2 d_Mo_meet_109 rfl rfl ?_
            refine jr_iload ok 5 d_Mo_meet_110 rfl ?_
            refine jr_iload ok 7 d_Mo_meet_112 rfl ?_
            obtain ⟨r34, S34, hc34, hs⟩ := mb2_some hs
            refine jr_mV1 ok hR m_Mo_250 (c_Mo_cellAt (jx_l X) D g S33 v2 v5 v7 r34 S34 hc34) rfl rfl rfl rfl (Nat.le_of_ble_eq_true rfl) ⟨Nat.le_of_ble_eq_true rfl, Nat.le_of_ble_eq_true rfl⟩ ⟨Nat.zero_le _, Nat.zero_le _⟩ d_Mo_meet_114 ?_
            refine jr_aload_n ok 0 d_Mo_meet_117 rfl rfl ?_
            refine jr_iload_n ok 3 d_Mo_meet_118 rfl rfl ?_
            refine jr_iload ok 6 d_Mo_meet_119 rfl ?_
            refine jr_iload ok 7 d_Mo_meet_121 rfl ?_
            obtain ⟨r35, S35, hc35, hs⟩ := mb2_some hs
            refine jr_mV1 ok hR m_Mo_250 (c_Mo_cellAt (jx_l X) D g S34 v3 v6 v7 r35 S35 hc35) rfl rfl rfl rfl (Nat.le_of_ble_eq_true rfl) ⟨Nat.le_of_ble_eq_true rfl, Nat.le_of_ble_eq_true rfl⟩ ⟨Nat.zero_le _, Nat.zero_le _⟩ d_Mo_meet_123 ?_
            obtain ⟨r36, S36, hc36, hs⟩ := mb2_some hs
            refine jr_mV0 ok hR m_Mo_284 (c_Mo_join (jx_l X) D g S35 v1 r33 r34 r35 r36 S36 hc36) rfl rfl rfl rfl (Nat.le_of_ble_eq_true rfl) ⟨Nat.le_of_ble_eq_true rfl, Nat.le_of_ble_eq_true rfl⟩ ⟨Nat.zero_le _, Nat.zero_le _⟩ d_Mo_meet_126 ?_
            refine jr_iinc [(7, .int (ii (v7 + 1))), (0, .ref (g 0)), (1, .int (ii v1)), (2, .int (ii v2)), (3, .int (ii v3)), (4, .int (ii v4)), (5, .int (ii v5)), (6, .int (ii v6))] 7 ok d_Mo_meet_129 rfl (by rw [hN]; decide) rfl ?_
            refine jr_goto 88 ok d_Mo_meet_132 (by decide) ?_
            exact jr_lv [1, 2, 3, 4, 5, 6, 7, 0] rfl (ih88 v1 v2 v3 v4 v5 v6 (v7 + 1) S36 hs)
      have B_71 : ∀ (v1 : Int) (v2 : Int) (v3 : Int) (v4 : Int) (v5 : Int) (v6 : Int) (S : MS), q_Mo_meet_71 (q_Mo_meet_6 n6) v1 v2 v3 v4 v5 v6 S = some (r, S9) → jw X 0 0 (moL D g S) [(0, .ref (g 0)), (1, .int (ii v1)), (2, .int (ii v2)), (3, .int (ii v3)), (4, .int (ii v4)), (5, .int (ii v5)), (6, .int (ii v6))] 71 [] := by
        intro v1 v2 v3 v4 v5 v6 S hs
        rw [q_Mo_meet_71] at hs
        refine jr_iload ok 6 d_Mo_meet_71 rfl ?_
        refine jr_aload_n ok 0 d_Mo_meet_73 rfl rfl ?_
        refine jr_get (v := .ref (g 13)) ok 0 f_Mo_50 rfl rfl d_Mo_meet_74 ?_
        refine jr_iload_n ok 3 d_Mo_meet_77 rfl rfl ?_
        obtain ⟨hb28, hs⟩ := oq_if hs
        refine jr_iald ok 13 rfl rfl hb28.1 hb28.2 d_Mo_meet_78 ?_
        refine jr_wicmp_ne 85 ok rfl rfl d_Mo_meet_79 (by decide) (fun c29 => ?_) (fun c29 => ?_)
        · replace hs := oq_neg c29 hs
          refine jr_iconst ok d_Mo_meet_85 ?_
          refine jr_istore [(7, .int (ii 0)), (0, .ref (g 0)), (1, .int (ii v1)), (2, .int (ii v2)), (3, .int (ii v3)), (4, .int (ii v4)), (5, .int (ii v5)), (6, .int (ii v6))] ok d_Mo_meet_86 (by rw [hN]; decide) rfl ?_
          exact jr_lv [1, 2, 3, 4, 5, 6, 7, 0] rfl (B_88 fU v1 v2 v3 v4 v5 v6 0 S hs)
        · replace hs := oq_pos c29 hs
          refine jr_goto 164 ok d_Mo_meet_82 (by decide) ?_
          exact jr_lv [0, 1, 2, 3, 4, 5] rfl (B_164 v1 v2 v3 v4 v5 S hs)
      have B_20 : ∀ (n20 : Nat), ∀ (v1 : Int) (v2 : Int) (v3 : Int) (v4 : Int) (v5 : Int) (v6 : Int) (S : MS), q_Mo_meet_20 (q_Mo_meet_6 n6) n20 v1 v2 v3 v4 v5 v6 S = some (r, S9) → jw X 0 0 (moL D g S) [(0, .ref (g 0)), (1, .int (ii v1)), (2, .int (ii v2)), (3, .int (ii v3)), (4, .int (ii v4)), (5, .int (ii v5)), (6, .int (ii v6))] 20 [] := by
        intro n20
        induction n20 with
        | zero =>
          intro v1 v2 v3 v4 v5 v6 S hs
          rw [q_Mo_meet_20] at hs; cases hs
        | succ n20 ih20 =>
          intro v1 v2 v3 v4 v5 v6 S hs
          rw [q_Mo_meet_20] at hs
          refine jr_iload ok 6 d_Mo_meet_20 rfl ?_
          refine jr_aload_n ok 0 d_Mo_meet_22 rfl rfl ?_
          refine jr_get (v := .ref (g 13)) ok 0 f_Mo_50 rfl rfl d_Mo_meet_23 ?_
          refine jr_iload_n ok 3 d_Mo_meet_26 rfl rfl ?_
          obtain ⟨hb22, hs⟩ := oq_if hs
          refine jr_iald ok 13 rfl rfl hb22.1 hb22.2 d_Mo_meet_27 ?_
          refine jr_wicmp_ge 71 ok rfl rfl d_Mo_meet_28 (by decide) (fun c23 => ?_) (fun c23 => ?_)
          · replace hs := oq_pos c23 hs
            exact jr_lv [0, 1, 2, 3, 4, 5, 6] rfl (B_71 v1 v2 v3 v4 v5 v6 S hs)
          · replace hs := oq_neg c23 hs
            refine jr_aload_n ok 0 d_Mo_meet_31 rfl rfl ?_
            refine jr_iload_n ok 2 d_Mo_meet_32 rfl rfl ?_
            refine jr_aload_n ok 0 d_Mo_meet_33 rfl rfl ?_
            refine jr_get (v := .ref (g 14)) ok 0 f_Mo_53 rfl rfl d_Mo_meet_34 ?_
            refine jr_sipush ok d_Mo_meet_37 (by decide +kernel) ?_
            refine jr_iload_n ok 2 d_Mo_meet_40 rfl rfl ?_
            refine jr_imul ok d_Mo_meet_41 ?_
            refine jr_iload ok 5 d_Mo_meet_42 rfl ?_
            refine jr_iadd ok d_Mo_meet_44 ?_
            obtain ⟨hb24, hs⟩ := oq_if hs
            refine jr_iald ok 14 rfl rfl hb24.1 hb24.2 d_Mo_meet_45 ?_
            refine jr_aload_n ok 0 d_Mo_meet_46 rfl rfl ?_
            refine jr_get (v := .ref (g 14)) ok 0 f_Mo_53 rfl rfl d_Mo_meet_47 ?_
            refine jr_sipush ok d_Mo_meet_50 (by decide +kernel) ?_
            refine jr_iload_n ok 3 d_Mo_meet_53 rfl rfl ?_
            refine jr_imul ok d_Mo_meet_54 ?_
            refine jr_iload ok 6 d_Mo_meet_55 rfl ?_
            refine jr_iadd ok d_Mo_meet_57 ?_
            obtain ⟨hb25, hs⟩ := oq_if hs
            refine jr_iald ok 14 rfl rfl hb25.1 hb25.2 d_Mo_meet_58 ?_
            obtain ⟨r26, S26, hc26, hs⟩ := mb2_some hs
            refine jr_mV1 ok hR m_Mo_247 (c_Mo_compareRows (jx_l X) D g S v2 (S.m_rowSeries ((256 * v2) + v5)) (S.m_rowSeries ((256 * v3) + v6)) r26 S26 hc26) rfl rfl rfl rfl (Nat.le_of_ble_eq_true rfl) ⟨Nat.le_of_ble_eq_true rfl, Nat.le_of_ble_eq_true rfl⟩ ⟨Nat.zero_le _, Nat.zero_le _⟩ d_Mo_meet_59 ?_
            refine jr_wif_eq 71 ok rfl d_Mo_meet_62 (by decide) (fun c27 => ?_) (fun c27 => ?_)
            · replace hs := oq_pos c27 hs
              exact jr_lv [0, 1, 2, 3, 4, 5, 6] rfl (B_71 v1 v2 v3 v4 v5 v6 S26 hs)
            · replace hs := oq_neg c27 hs
              refine jr_iinc [(6, .int (ii (v6 + 1))), (0, .ref (g 0)), (1, .int (ii v1)), (2, .int (ii v2)), (3, .int (ii v3)), (4, .int (ii v4)), (5, .int (ii v5))] 6 ok d_Mo_meet_65 rfl (by rw [hN]; decide) rfl ?_
              refine jr_goto 20 ok d_Mo_meet_68 (by decide) ?_
              exact jr_lv [1, 2, 3, 4, 5, 6, 0] rfl (ih20 v1 v2 v3 v4 v5 (v6 + 1) S26 hs)
      intro v1 v2 v3 v4 v5 S hs
      rw [q_Mo_meet_6] at hs
      refine jr_iload ok 5 d_Mo_meet_6 rfl ?_
      refine jr_aload_n ok 0 d_Mo_meet_8 rfl rfl ?_
      refine jr_get (v := .ref (g 13)) ok 0 f_Mo_50 rfl rfl d_Mo_meet_9 ?_
      refine jr_iload_n ok 2 d_Mo_meet_12 rfl rfl ?_
      obtain ⟨hb19, hs⟩ := oq_if hs
      refine jr_iald ok 13 rfl rfl hb19.1 hb19.2 d_Mo_meet_13 ?_
      refine jr_wicmp_ge 170 ok rfl rfl d_Mo_meet_14 (by decide) (fun c20 => ?_) (fun c20 => ?_)
      · replace hs := oq_pos c20 hs
        refine jr_aload_n ok 0 d_Mo_meet_170 rfl rfl ?_
        refine jr_get (v := .ref (g 13)) ok 0 f_Mo_50 rfl rfl d_Mo_meet_171 ?_
        refine jr_iload_n ok 2 d_Mo_meet_174 rfl rfl ?_
        refine jr_iload ok 4 d_Mo_meet_175 rfl ?_
        obtain ⟨hb21, hs⟩ := oq_if hs
        refine jr_iast (moL D g (MS.w_m_tableRows S (aU S.m_tableRows v2 v4))) ok 13 rfl rfl hb21.1 hb21.2  rfl d_Mo_meet_177 ?_
        exact jm_vret (Lf := moL D g) ok fin hs d_Mo_meet_178
      · replace hs := oq_neg c20 hs
        refine jr_iconst ok d_Mo_meet_17 ?_
        refine jr_istore [(6, .int (ii 0)), (0, .ref (g 0)), (1, .int (ii v1)), (2, .int (ii v2)), (3, .int (ii v3)), (4, .int (ii v4)), (5, .int (ii v5))] ok d_Mo_meet_18 (by rw [hN]; decide) rfl ?_
        exact jr_lv [1, 2, 3, 4, 5, 6, 0] rfl (B_20 fU v1 v2 v3 v4 v5 0 S hs)
  show jw X 0 0 (moL D g S) [(0, .ref (g 0)), (1, .int (ii v1)), (2, .int (ii v2)), (3, .int (ii v3))] 0 []
  rw [s_Mo_meet] at hs
  refine jr_iconst ok d_Mo_meet_0 ?_
  refine jr_istore [(4, .int (ii 0)), (0, .ref (g 0)), (1, .int (ii v1)), (2, .int (ii v2)), (3, .int (ii v3))] ok d_Mo_meet_1 (by rw [hN]; decide) rfl ?_
  refine jr_iconst ok d_Mo_meet_3 ?_
  refine jr_istore [(5, .int (ii 0)), (4, .int (ii 0)), (0, .ref (g 0)), (1, .int (ii v1)), (2, .int (ii v2)), (3, .int (ii v3))] ok d_Mo_meet_4 (by rw [hN]; decide) rfl ?_
  exact jr_lv [2, 3, 4, 5, 1, 0] rfl (B_6 fU v1 v2 v3 0 0 S hs)

def q_Mo_operate_182 (v3 : Int) (S : MS) : Option (Int × MS) := mb2 (s_Mo_sweep (MS.w_m_pile S (S.m_pile - 1)) v3) (fun r38 S38 => some (1, S38))

def q_Mo_operate_151 (v3 : Int) (t0 : Int) (t1 : Int) (S : MS) : Option (Int × MS) := if (0 : Int) ≤ t1 ∧ t1 < (20 : Int) then q_Mo_operate_182 v3 (MS.w_m_tableRows S (aU S.m_tableRows t1 t0)) else none

def q_Mo_operate_120 (k49 : Int → Int → Int → Int → MS → Option (Int × MS)) (v1 : Int) (v3 : Int) (v4 : Int) (v5 : Int) (S : MS) : Option (Int × MS) := k49 v1 v3 v4 (v5 + 1) S

def q_Mo_operate_63 (k49 : Int → Int → Int → Int → MS → Option (Int × MS)) : Nat → Int → Int → Int → Int → Int → MS → Option (Int × MS)
  | 0, _, _, _, _, _, _ => none
  | n + 1, v1, v3, v4, v5, v6, S => if w32 S.m_windows ≤ w32 v6 then q_Mo_operate_120 k49 v1 v3 v4 v5 S else if (0 : Int) ≤ v4 ∧ v4 < (20 : Int) then if w32 (S.m_tableRows v4) ≤ 0 then q_Mo_operate_120 k49 v1 v3 v4 v5 S else mb2 (s_Mo_cellAt S v3 v5 v6) (fun r33 S33 => mb2 (s_Mo_cellAt S33 v3 v5 v6) (fun r34 S34 => mb2 (s_Mo_cellAt S34 v4 0 v6) (fun r35 S35 => mb2 (s_Mo_join S35 v1 r33 r34 r35) (fun r36 S36 => (q_Mo_operate_63 k49 n) v1 v3 v4 v5 (v6 + 1) S36)))) else none

def q_Mo_operate_49 : Nat → Int → Int → Int → Int → MS → Option (Int × MS)
  | 0, _, _, _, _, _ => none
  | n + 1, v1, v3, v4, v5, S => if (0 : Int) ≤ v3 ∧ v3 < (20 : Int) then if w32 (S.m_tableRows v3) ≤ w32 v5 then if (0 : Int) ≤ v4 ∧ v4 < (20 : Int) then if w32 (S.m_tableRows v4) ≤ 0 then q_Mo_operate_151 v3 0 v3 S else if (0 : Int) ≤ v3 ∧ v3 < (20 : Int) then q_Mo_operate_151 v3 (S.m_tableRows v3) v3 S else none else none else q_Mo_operate_63 (q_Mo_operate_49 n) fU v1 v3 v4 v5 0 S else none

def s_Mo_operate (S : MS) (v1 : Int) (v2 : Int) : Option (Int × MS) := mb2 (s_Mo_hasSameNames S (S.m_pile - 2) (S.m_pile - 1)) (fun r39 S39 => if w32 r39 = 0 then if (0 : Int) ≤ (S.m_pile - 1) ∧ (S.m_pile - 1) < (20 : Int) then if w32 (S39.m_tableNames (S.m_pile - 1)) = 0 then q_Mo_operate_49 fU v1 (S.m_pile - 2) (S.m_pile - 1) 0 S39 else if (0 : Int) ≤ (S.m_pile - 2) ∧ (S.m_pile - 2) < (20 : Int) then if w32 (S39.m_tableNames (S.m_pile - 2)) = 0 then mb2 (s_Mo_spread S39 v1 (S.m_pile - 2) (S.m_pile - 1)) (fun r47 S47 => q_Mo_operate_182 (S.m_pile - 2) S47) else mb2 (s_Mo_flaw S39 5 v2) (fun r45 S45 => if r45 = 0 ∨ r45 = 1 then some (r45, S45) else none) else none else none else mb2 (s_Mo_meet S39 v1 (S.m_pile - 2) (S.m_pile - 1)) (fun r48 S48 => q_Mo_operate_182 (S.m_pile - 2) S48))
set_option maxHeartbeats 4000000 in
set_option maxRecDepth 100000 in
theorem c_Mo_operate (l : Launch) (D : jd_T) (g : Nat → Nat) (S : MS) (v1 : Int) (v2 : Int) (r : Int) (S9 : MS) (hs : s_Mo_operate S v1 v2 = some (r, S9)) : jc_C l D y_Mo_operate b_Mo_operate 7 (some .boolean) { frames := 3, cells := 0, slots := 0, locals := 85 } [.ref (g 0), .int (ii v1), .int (ii v2)] (moL D g S) (fun _ : Unit => (.returned (some (.int (ii r))), True, (moL D g S9))) := by
  refine jc_of rfl (Nat.le_of_ble_eq_true rfl) ?_
  intro X hl hR hN ok hnm fin
  subst hl
  have B_182 : ∀ (v3 : Int) (S : MS), q_Mo_operate_182 v3 S = some (r, S9) → jw X 0 0 (moL D g S) [(0, .ref (g 0)), (3, .int (ii v3))] 182 [] := by
    intro v3 S hs
    rw [q_Mo_operate_182] at hs
    refine jr_aload_n ok 0 d_Mo_operate_182 rfl rfl ?_
    refine jr_dup rfl ok d_Mo_operate_183 ?_
    refine jr_get (v := .int (ii S.m_pile)) ok 0 f_Mo_253 rfl rfl d_Mo_operate_184 ?_
    refine jr_iconst ok d_Mo_operate_187 ?_
    refine jr_isub ok d_Mo_operate_188 ?_
    refine jr_put (moL D g (MS.w_m_pile S (S.m_pile - 1))) ok 0 f_Mo_253 rfl rfl rfl (Nat.le_of_ble_eq_true rfl) rfl d_Mo_operate_189 ?_
    refine jr_aload_n ok 0 d_Mo_operate_192 rfl rfl ?_
    refine jr_iload_n ok 1 d_Mo_operate_193 rfl rfl ?_
    obtain ⟨r38, S38, hc38, hs⟩ := mb2_some hs
    refine jr_mV0 ok hR m_Mo_273 (c_Mo_sweep (jx_l X) D g (MS.w_m_pile S (S.m_pile - 1)) v3 r38 S38 hc38) rfl rfl rfl rfl (Nat.le_of_ble_eq_true rfl) ⟨Nat.le_of_ble_eq_true rfl, Nat.le_of_ble_eq_true rfl⟩ ⟨Nat.zero_le _, Nat.zero_le _⟩ d_Mo_operate_194 ?_
    refine jr_iconst ok d_Mo_operate_197 ?_
    exact jm_zret (Lf := moL D g) ok (by decide +kernel) fin hs d_Mo_operate_198
  have B_151 : ∀ (v3 : Int) (t0 : Int) (t1 : Int) (S : MS), q_Mo_operate_151 v3 t0 t1 S = some (r, S9) → jw X 0 0 (moL D g S) [(0, .ref (g 0)), (3, .int (ii v3))] 151 [.int (ii t0), .int (ii t1), .ref (g 13)] := by
    intro v3 t0 t1 S hs
    rw [q_Mo_operate_151] at hs
    obtain ⟨hb37, hs⟩ := oq_if hs
    refine jr_iast (moL D g (MS.w_m_tableRows S (aU S.m_tableRows t1 t0))) ok 13 rfl rfl hb37.1 hb37.2  rfl d_Mo_operate_151 ?_
    refine jr_goto 182 ok d_Mo_operate_152 (by decide) ?_
    exact jr_lv [0, 1] rfl (B_182 v3 (MS.w_m_tableRows S (aU S.m_tableRows t1 t0)) hs)
  have B_49 : ∀ (n49 : Nat), ∀ (v1 : Int) (v3 : Int) (v4 : Int) (v5 : Int) (S : MS), q_Mo_operate_49 n49 v1 v3 v4 v5 S = some (r, S9) → jw X 0 0 (moL D g S) [(0, .ref (g 0)), (1, .int (ii v1)), (3, .int (ii v3)), (4, .int (ii v4)), (5, .int (ii v5))] 49 [] := by
    intro n49
    induction n49 with
    | zero =>
      intro v1 v3 v4 v5 S hs
      rw [q_Mo_operate_49] at hs; cases hs
    | succ n49 ih49 =>
      have B_120 : ∀ (v1 : Int) (v3 : Int) (v4 : Int) (v5 : Int) (S : MS), q_Mo_operate_120 (q_Mo_operate_49 n49) v1 v3 v4 v5 S = some (r, S9) → jw X 0 0 (moL D g S) [(0, .ref (g 0)), (1, .int (ii v1)), (3, .int (ii v3)), (4, .int (ii v4)), (5, .int (ii v5))] 120 [] := by
        intro v1 v3 v4 v5 S hs
        rw [q_Mo_operate_120] at hs
        refine jr_iinc [(5, .int (ii (v5 + 1))), (0, .ref (g 0)), (1, .int (ii v1)), (3, .int (ii v3)), (4, .int (ii v4))] 4 ok d_Mo_operate_120 rfl (by rw [hN]; decide) rfl ?_
        refine jr_goto 49 ok d_Mo_operate_123 (by decide) ?_
        exact jr_lv [1, 2, 3, 4, 0] rfl (ih49 v1 v3 v4 (v5 + 1) S hs)
      have B_63 : ∀ (n63 : Nat), ∀ (v1 : Int) (v3 : Int) (v4 : Int) (v5 : Int) (v6 : Int) (S : MS), q_Mo_operate_63 (q_Mo_operate_49 n49) n63 v1 v3 v4 v5 v6 S = some (r, S9) → jw X 0 0 (moL D g S) [(0, .ref (g 0)), (1, .int (ii v1)), (3, .int (ii v3)), (4, .int (ii v4)), (5, .int (ii v5)), (6, .int (ii v6))] 63 [] := by
        intro n63
        induction n63 with
        | zero =>
          intro v1 v3 v4 v5 v6 S hs
          rw [q_Mo_operate_63] at hs; cases hs
        | succ n63 ih63 =>
          intro v1 v3 v4 v5 v6 S hs
          rw [q_Mo_operate_63] at hs
          refine jr_iload ok 5 d_Mo_operate_63 rfl ?_
          refine jr_aload_n ok 0 d_Mo_operate_65 rfl rfl ?_
          refine jr_get (v := .int (ii S.m_windows)) ok 0 f_Mo_234 rfl rfl d_Mo_operate_66 ?_
          refine jr_wicmp_ge 120 ok rfl rfl d_Mo_operate_69 (by decide) (fun c30 => ?_) (fun c30 => ?_)
          · replace hs := oq_pos c30 hs
            exact jr_lv [0, 1, 2, 3, 4] rfl (B_120 v1 v3 v4 v5 S hs)
          · replace hs := oq_neg c30 hs
            refine jr_aload_n ok 0 d_Mo_operate_72 rfl rfl ?_
            refine jr_get (v := .ref (g 13)) ok 0 f_Mo_50 rfl rfl d_Mo_operate_73 ?_
            refine jr_iload ok 3 d_Mo_operate_76 rfl ?_
            obtain ⟨hb31, hs⟩ := oq_if hs
            refine jr_iald ok 13 rfl rfl hb31.1 hb31.2 d_Mo_operate_78 ?_
            refine jr_wif_le 120 ok rfl d_Mo_operate_79 (by decide) (fun c32 => ?_) (fun c32 => ?_)
            · replace hs := oq_pos c32 hs
              exact jr_lv [0, 1, 2, 3, 4] rfl (B_120 v1 v3 v4 v5 S hs)
            · replace hs := oq_neg c32 hs
              refine jr_aload_n ok 0 d_Mo_operate_82 rfl rfl ?_
              refine jr_iload_n ok 1 d_Mo_operate_83 rfl rfl ?_
              refine jr_aload_n ok 0 d_Mo_operate_84 rfl rfl ?_
              refine jr_iload_n ok 2 d_Mo_operate_85 rfl rfl ?_
              refine jr_iload ok 4 d_Mo_operate_86 rfl ?_
              refine jr_iload ok 5 d_Mo_operate_88 rfl ?_
              obtain ⟨r33, S33, hc33, hs⟩ := mb2_some hs
              refine jr_mV1 ok hR m_Mo_250 (c_Mo_cellAt (jx_l X) D g S v3 v5 v6 r33 S33 hc33) rfl rfl rfl rfl (Nat.le_of_ble_eq_true rfl) ⟨Nat.le_of_ble_eq_true rfl, Nat.le_of_ble_eq_true rfl⟩ ⟨Nat.zero_le _, Nat.zero_le _⟩ d_Mo_operate_90 ?_
              refine jr_aload_n ok 0 d_Mo_operate_93 rfl rfl ?_
              refine jr_iload_n ok 2 d_Mo_operate_94 rfl rfl ?_
              refine jr_iload ok 4 d_Mo_operate_95 rfl ?_
              refine jr_iload ok 5 d_Mo_operate_97 rfl ?_
              obtain ⟨r34, S34, hc34, hs⟩ := mb2_some hs
              refine jr_mV1 ok hR m_Mo_250 (c_Mo_cellAt (jx_l X) D g S33 v3 v5 v6 r34 S34 hc34) rfl rfl rfl rfl (Nat.le_of_ble_eq_true rfl) ⟨Nat.le_of_ble_eq_true rfl, Nat.le_of_ble_eq_true rfl⟩ ⟨Nat.zero_le _, Nat.zero_le _⟩ d_Mo_operate_99 ?_
              refine jr_aload_n ok 0 d_Mo_operate_102 rfl rfl ?_
              refine jr_iload ok 3 d_Mo_operate_103 rfl ?_
              refine jr_iconst ok d_Mo_operate_105 ?_
              refine jr_iload ok 5 d_Mo_operate_106 rfl ?_
              obtain ⟨r35, S35, hc35, hs⟩ := mb2_some hs
              refine jr_mV1 ok hR m_Mo_250 (c_Mo_cellAt (jx_l X) D g S34 v4 0 v6 r35 S35 hc35) rfl rfl rfl rfl (Nat.le_of_ble_eq_true rfl) ⟨Nat.le_of_ble_eq_true rfl, Nat.le_of_ble_eq_true rfl⟩ ⟨Nat.zero_le _, Nat.zero_le _⟩ d_Mo_operate_108 ?_
              obtain ⟨r36, S36, hc36, hs⟩ := mb2_some hs
              refine jr_mV0 ok hR m_Mo_284 (c_Mo_join (jx_l X) D g S35 v1 r33 r34 r35 r36 S36 hc36) rfl rfl rfl rfl (Nat.le_of_ble_eq_true rfl) ⟨Nat.le_of_ble_eq_true rfl, Nat.le_of_ble_eq_true rfl⟩ ⟨Nat.zero_le _, Nat.zero_le _⟩ d_Mo_operate_111 ?_
              refine jr_iinc [(6, .int (ii (v6 + 1))), (0, .ref (g 0)), (1, .int (ii v1)), (3, .int (ii v3)), (4, .int (ii v4)), (5, .int (ii v5))] 5 ok d_Mo_operate_114 rfl (by rw [hN]; decide) rfl ?_
              refine jr_goto 63 ok d_Mo_operate_117 (by decide) ?_
              exact jr_lv [1, 2, 3, 4, 5, 0] rfl (ih63 v1 v3 v4 v5 (v6 + 1) S36 hs)
      intro v1 v3 v4 v5 S hs
      rw [q_Mo_operate_49] at hs
      refine jr_iload ok 4 d_Mo_operate_49 rfl ?_
      refine jr_aload_n ok 0 d_Mo_operate_51 rfl rfl ?_
      refine jr_get (v := .ref (g 13)) ok 0 f_Mo_50 rfl rfl d_Mo_operate_52 ?_
      refine jr_iload_n ok 2 d_Mo_operate_55 rfl rfl ?_
      obtain ⟨hb25, hs⟩ := oq_if hs
      refine jr_iald ok 13 rfl rfl hb25.1 hb25.2 d_Mo_operate_56 ?_
      refine jr_wicmp_ge 126 ok rfl rfl d_Mo_operate_57 (by decide) (fun c26 => ?_) (fun c26 => ?_)
      · replace hs := oq_pos c26 hs
        refine jr_aload_n ok 0 d_Mo_operate_126 rfl rfl ?_
        refine jr_get (v := .ref (g 13)) ok 0 f_Mo_50 rfl rfl d_Mo_operate_127 ?_
        refine jr_iload_n ok 2 d_Mo_operate_130 rfl rfl ?_
        refine jr_aload_n ok 0 d_Mo_operate_131 rfl rfl ?_
        refine jr_get (v := .ref (g 13)) ok 0 f_Mo_50 rfl rfl d_Mo_operate_132 ?_
        refine jr_iload ok 3 d_Mo_operate_135 rfl ?_
        obtain ⟨hb27, hs⟩ := oq_if hs
        refine jr_iald ok 13 rfl rfl hb27.1 hb27.2 d_Mo_operate_137 ?_
        refine jr_wif_le 150 ok rfl d_Mo_operate_138 (by decide) (fun c28 => ?_) (fun c28 => ?_)
        · replace hs := oq_pos c28 hs
          refine jr_iconst ok d_Mo_operate_150 ?_
          exact jr_lv [0, 2] rfl (B_151 v3 0 v3 S hs)
        · replace hs := oq_neg c28 hs
          refine jr_aload_n ok 0 d_Mo_operate_141 rfl rfl ?_
          refine jr_get (v := .ref (g 13)) ok 0 f_Mo_50 rfl rfl d_Mo_operate_142 ?_
          refine jr_iload_n ok 2 d_Mo_operate_145 rfl rfl ?_
          obtain ⟨hb29, hs⟩ := oq_if hs
          refine jr_iald ok 13 rfl rfl hb29.1 hb29.2 d_Mo_operate_146 ?_
          refine jr_goto 151 ok d_Mo_operate_147 (by decide) ?_
          exact jr_lv [0, 2] rfl (B_151 v3 (S.m_tableRows v3) v3 S hs)
      · replace hs := oq_neg c26 hs
        refine jr_iconst ok d_Mo_operate_60 ?_
        refine jr_istore [(6, .int (ii 0)), (0, .ref (g 0)), (1, .int (ii v1)), (3, .int (ii v3)), (4, .int (ii v4)), (5, .int (ii v5))] ok d_Mo_operate_61 (by rw [hN]; decide) rfl ?_
        exact jr_lv [1, 2, 3, 4, 5, 0] rfl (B_63 fU v1 v3 v4 v5 0 S hs)
  show jw X 0 0 (moL D g S) [(0, .ref (g 0)), (1, .int (ii v1)), (2, .int (ii v2))] 0 []
  rw [s_Mo_operate] at hs
  refine jr_aload_n ok 0 d_Mo_operate_0 rfl rfl ?_
  refine jr_get (v := .int (ii S.m_pile)) ok 0 f_Mo_253 rfl rfl d_Mo_operate_1 ?_
  refine jr_iconst ok d_Mo_operate_4 ?_
  refine jr_isub ok d_Mo_operate_5 ?_
  refine jr_istore_n [(3, .int (ii (S.m_pile - 2))), (0, .ref (g 0)), (1, .int (ii v1)), (2, .int (ii v2))] ok d_Mo_operate_6 rfl (by rw [hN]; decide) rfl ?_
  refine jr_aload_n ok 1 d_Mo_operate_7 rfl rfl ?_
  refine jr_get (v := .int (ii S.m_pile)) ok 0 f_Mo_253 rfl rfl d_Mo_operate_8 ?_
  refine jr_iconst ok d_Mo_operate_11 ?_
  refine jr_isub ok d_Mo_operate_12 ?_
  refine jr_istore [(4, .int (ii (S.m_pile - 1))), (3, .int (ii (S.m_pile - 2))), (0, .ref (g 0)), (1, .int (ii v1)), (2, .int (ii v2))] ok d_Mo_operate_13 (by rw [hN]; decide) rfl ?_
  refine jr_aload_n ok 2 d_Mo_operate_15 rfl rfl ?_
  refine jr_iload_n ok 1 d_Mo_operate_16 rfl rfl ?_
  refine jr_iload ok 0 d_Mo_operate_17 rfl ?_
  obtain ⟨r39, S39, hc39, hs⟩ := mb2_some hs
  refine jr_mV1 ok hR m_Mo_277 (c_Mo_hasSameNames (jx_l X) D g S (S.m_pile - 2) (S.m_pile - 1) r39 S39 hc39) rfl rfl rfl rfl (Nat.le_of_ble_eq_true rfl) ⟨Nat.le_of_ble_eq_true rfl, Nat.le_of_ble_eq_true rfl⟩ ⟨Nat.zero_le _, Nat.zero_le _⟩ d_Mo_operate_19 ?_
  refine jr_wif_eq 36 ok rfl d_Mo_operate_22 (by decide) (fun c40 => ?_) (fun c40 => ?_)
  · replace hs := oq_pos c40 hs
    refine jr_aload_n ok 2 d_Mo_operate_36 rfl rfl ?_
    refine jr_get (v := .ref (g 10)) ok 0 f_Mo_41 rfl rfl d_Mo_operate_37 ?_
    refine jr_iload ok 0 d_Mo_operate_40 rfl ?_
    obtain ⟨hb41, hs⟩ := oq_if hs
    refine jr_iald ok 10 rfl rfl hb41.1 hb41.2 d_Mo_operate_42 ?_
    refine jr_wif_ne 155 ok rfl d_Mo_operate_43 (by decide) (fun c42 => ?_) (fun c42 => ?_)
    · replace hs := oq_neg c42 hs
      refine jr_aload_n ok 2 d_Mo_operate_155 rfl rfl ?_
      refine jr_get (v := .ref (g 10)) ok 0 f_Mo_41 rfl rfl d_Mo_operate_156 ?_
      refine jr_iload_n ok 1 d_Mo_operate_159 rfl rfl ?_
      obtain ⟨hb43, hs⟩ := oq_if hs
      refine jr_iald ok 10 rfl rfl hb43.1 hb43.2 d_Mo_operate_160 ?_
      refine jr_wif_ne 175 ok rfl d_Mo_operate_161 (by decide) (fun c44 => ?_) (fun c44 => ?_)
      · replace hs := oq_neg c44 hs
        refine jr_aload_n ok 2 d_Mo_operate_175 rfl rfl ?_
        refine jr_iconst ok d_Mo_operate_176 ?_
        refine jr_iload_n ok 4 d_Mo_operate_177 rfl rfl ?_
        obtain ⟨r45, S45, hc45, hs⟩ := mb2_some hs
        refine jr_mV1 ok hR m_Mo_125 (c_Mo_flaw (jx_l X) D g S39 5 v2 r45 S45 hc45) rfl rfl rfl rfl (Nat.le_of_ble_eq_true rfl) ⟨Nat.le_of_ble_eq_true rfl, Nat.le_of_ble_eq_true rfl⟩ ⟨Nat.zero_le _, Nat.zero_le _⟩ d_Mo_operate_178 ?_
        obtain ⟨hb46, hs⟩ := oq_if hs
        exact jm_zret (Lf := moL D g) ok (nz_b hb46) fin hs d_Mo_operate_181
      · replace hs := oq_pos c44 hs
        refine jr_aload_n ok 2 d_Mo_operate_164 rfl rfl ?_
        refine jr_iload_n ok 3 d_Mo_operate_165 rfl rfl ?_
        refine jr_iload_n ok 1 d_Mo_operate_166 rfl rfl ?_
        refine jr_iload ok 0 d_Mo_operate_167 rfl ?_
        obtain ⟨r47, S47, hc47, hs⟩ := mb2_some hs
        refine jr_mV0 ok hR m_Mo_288 (c_Mo_spread (jx_l X) D g S39 v1 (S.m_pile - 2) (S.m_pile - 1) r47 S47 hc47) rfl rfl rfl rfl (Nat.le_of_ble_eq_true rfl) ⟨Nat.le_of_ble_eq_true rfl, Nat.le_of_ble_eq_true rfl⟩ ⟨Nat.zero_le _, Nat.zero_le _⟩ d_Mo_operate_169 ?_
        refine jr_goto 182 ok d_Mo_operate_172 (by decide) ?_
        exact jr_lv [2, 1] rfl (B_182 (S.m_pile - 2) S47 hs)
    · replace hs := oq_pos c42 hs
      refine jr_iconst ok d_Mo_operate_46 ?_
      refine jr_istore [(5, .int (ii 0)), (4, .int (ii (S.m_pile - 1))), (3, .int (ii (S.m_pile - 2))), (0, .ref (g 0)), (1, .int (ii v1)), (2, .int (ii v2))] ok d_Mo_operate_47 (by rw [hN]; decide) rfl ?_
      exact jr_lv [3, 4, 2, 1, 0] rfl (B_49 fU v1 (S.m_pile - 2) (S.m_pile - 1) 0 S39 hs)
  · replace hs := oq_neg c40 hs
    refine jr_aload_n ok 2 d_Mo_operate_25 rfl rfl ?_
    refine jr_iload_n ok 3 d_Mo_operate_26 rfl rfl ?_
    refine jr_iload_n ok 1 d_Mo_operate_27 rfl rfl ?_
    refine jr_iload ok 0 d_Mo_operate_28 rfl ?_
    obtain ⟨r48, S48, hc48, hs⟩ := mb2_some hs
    refine jr_mV0 ok hR m_Mo_280 (c_Mo_meet (jx_l X) D g S39 v1 (S.m_pile - 2) (S.m_pile - 1) r48 S48 hc48) rfl rfl rfl rfl (Nat.le_of_ble_eq_true rfl) ⟨Nat.le_of_ble_eq_true rfl, Nat.le_of_ble_eq_true rfl⟩ ⟨Nat.zero_le _, Nat.zero_le _⟩ d_Mo_operate_30 ?_
    refine jr_goto 182 ok d_Mo_operate_33 (by decide) ?_
    exact jr_lv [2, 1] rfl (B_182 (S.m_pile - 2) S48 hs)

def q_Mo_reckon_136 (k14 : Int → Int → Int → MS → Option (Unit × MS)) (v1 : Int) (v3 : Int) (v4 : Int) (S : MS) : Option (Unit × MS) := k14 v1 v3 (v4 + 1) S

def q_Mo_reckon_114 (k14 : Int → Int → Int → MS → Option (Unit × MS)) (v1 : Int) (v3 : Int) (v4 : Int) (v5 : Int) (S : MS) : Option (Unit × MS) := if (0 : Int) ≤ v4 ∧ v4 < (8192 : Int) then if (0 : Int) ≤ v5 ∧ v5 < (256 : Int) then if (0 : Int) ≤ v5 ∧ v5 < (256 : Int) then q_Mo_reckon_136 k14 v1 v3 v4 (MS.w_m_hasBefore (MS.w_m_befores S (aU S.m_befores v5 (S.m_pointValues v4))) (aU S.m_hasBefore v5 1)) else none else none else none

def q_Mo_reckon_14 : Nat → Int → Int → Int → MS → Option (Unit × MS)
  | 0, _, _, _, _ => none
  | n + 1, v1, v3, v4, S => if w32 S.m_points ≤ w32 v4 then mb2 (s_Mo_sweep (MS.w_m_pile S (S.m_pile + 1)) v3) (fun r20 S20 => some ((), S20)) else if (0 : Int) ≤ v4 ∧ v4 < (8192 : Int) then mb2 (s_Mo_isSeen S v4) (fun r22 S22 => if w32 r22 = 0 then q_Mo_reckon_136 (q_Mo_reckon_14 n) v1 v3 v4 S22 else if (0 : Int) ≤ v4 ∧ v4 < (8192 : Int) then if (0 : Int) ≤ (S.m_pointSeries v4) ∧ (S.m_pointSeries v4) < (256 : Int) then if w32 (S22.m_rowOf (S.m_pointSeries v4)) < 0 then q_Mo_reckon_114 (q_Mo_reckon_14 n) v1 v3 v4 (S.m_pointSeries v4) S22 else if ((S22.m_pointTimes v4) - S22.m_windowsFrom).toInt < 0 then q_Mo_reckon_114 (q_Mo_reckon_14 n) v1 v3 v4 (S.m_pointSeries v4) S22 else if ¬ S22.m_width = 0 then if (ll (w32 S22.m_windows)).toInt ≤ (((S22.m_pointTimes v4) - S22.m_windowsFrom) / S22.m_width).toInt then q_Mo_reckon_114 (q_Mo_reckon_14 n) v1 v3 v4 (S.m_pointSeries v4) S22 else if (0 : Int) ≤ (S.m_pointSeries v4) ∧ (S.m_pointSeries v4) < (256 : Int) then if ¬ S22.m_width = 0 then mb2 (s_Mo_gather S22 v3 v1 v4 (S22.m_rowOf (S.m_pointSeries v4)) ((((S22.m_pointTimes v4) - S22.m_windowsFrom) / S22.m_width).toInt)) (fun r32 S32 => q_Mo_reckon_114 (q_Mo_reckon_14 n) v1 v3 v4 (S.m_pointSeries v4) S32) else none else none else none else none else none) else none

def s_Mo_reckon (S : MS) (v1 : Int) (v2 : Int) : Option (Unit × MS) := mb2 (s_Mo_group S S.m_pile v2) (fun r36 S36 => q_Mo_reckon_14 fU v1 S.m_pile 0 S36)
set_option maxHeartbeats 4000000 in
set_option maxRecDepth 100000 in
theorem c_Mo_reckon (l : Launch) (D : jd_T) (g : Nat → Nat) (S : MS) (v1 : Int) (v2 : Int) (r : Unit) (S9 : MS) (hs : s_Mo_reckon S v1 v2 = some (r, S9)) : jc_C l D y_Mo_reckon b_Mo_reckon 8 none { frames := 3, cells := 0, slots := 0, locals := 86 } [.ref (g 0), .int (ii v1), .int (ii v2)] (moL D g S) (fun _ : Unit => (.returned (none), True, (moL D g S9))) := by
  refine jc_of rfl (Nat.le_of_ble_eq_true rfl) ?_
  intro X hl hR hN ok hnm fin
  subst hl
  have B_14 : ∀ (n14 : Nat), ∀ (v1 : Int) (v3 : Int) (v4 : Int) (S : MS), q_Mo_reckon_14 n14 v1 v3 v4 S = some (r, S9) → jw X 0 0 (moL D g S) [(0, .ref (g 0)), (1, .int (ii v1)), (3, .int (ii v3)), (4, .int (ii v4))] 14 [] := by
    intro n14
    induction n14 with
    | zero =>
      intro v1 v3 v4 S hs
      rw [q_Mo_reckon_14] at hs; cases hs
    | succ n14 ih14 =>
      have B_136 : ∀ (v1 : Int) (v3 : Int) (v4 : Int) (S : MS), q_Mo_reckon_136 (q_Mo_reckon_14 n14) v1 v3 v4 S = some (r, S9) → jw X 0 0 (moL D g S) [(0, .ref (g 0)), (1, .int (ii v1)), (3, .int (ii v3)), (4, .int (ii v4))] 136 [] := by
        intro v1 v3 v4 S hs
        rw [q_Mo_reckon_136] at hs
        refine jr_iinc [(4, .int (ii (v4 + 1))), (0, .ref (g 0)), (1, .int (ii v1)), (3, .int (ii v3))] 3 ok d_Mo_reckon_136 rfl (by rw [hN]; decide) rfl ?_
        refine jr_goto 14 ok d_Mo_reckon_139 (by decide) ?_
        exact jr_lv [1, 2, 3, 0] rfl (ih14 v1 v3 (v4 + 1) S hs)
      have B_114 : ∀ (v1 : Int) (v3 : Int) (v4 : Int) (v5 : Int) (S : MS), q_Mo_reckon_114 (q_Mo_reckon_14 n14) v1 v3 v4 v5 S = some (r, S9) → jw X 0 0 (moL D g S) [(0, .ref (g 0)), (1, .int (ii v1)), (3, .int (ii v3)), (4, .int (ii v4)), (5, .int (ii v5))] 114 [] := by
        intro v1 v3 v4 v5 S hs
        rw [q_Mo_reckon_114] at hs
        refine jr_aload_n ok 0 d_Mo_reckon_114 rfl rfl ?_
        refine jr_get (v := .ref (g 21)) ok 0 f_Mo_76 rfl rfl d_Mo_reckon_115 ?_
        refine jr_iload ok 4 d_Mo_reckon_118 rfl ?_
        refine jr_aload_n ok 0 d_Mo_reckon_120 rfl rfl ?_
        refine jr_get (v := .ref (g 7)) ok 0 f_Mo_32 rfl rfl d_Mo_reckon_121 ?_
        refine jr_iload ok 3 d_Mo_reckon_124 rfl ?_
        obtain ⟨hb33, hs⟩ := oq_if hs
        refine jr_lald ok 7 rfl rfl hb33.1 hb33.2 d_Mo_reckon_126 ?_
        obtain ⟨hb34, hs⟩ := oq_if hs
        refine jr_last (moL D g (MS.w_m_befores S (aU S.m_befores v5 (S.m_pointValues v4)))) ok 21 rfl rfl hb34.1 hb34.2  rfl d_Mo_reckon_127 ?_
        refine jr_aload_n ok 0 d_Mo_reckon_128 rfl rfl ?_
        refine jr_get (v := .ref (g 22)) ok 0 f_Mo_79 rfl rfl d_Mo_reckon_129 ?_
        refine jr_iload ok 4 d_Mo_reckon_132 rfl ?_
        refine jr_iconst ok d_Mo_reckon_134 ?_
        obtain ⟨hb35, hs⟩ := oq_if hs
        refine jr_zast (moL D g (MS.w_m_hasBefore (MS.w_m_befores S (aU S.m_befores v5 (S.m_pointValues v4))) (aU S.m_hasBefore v5 1))) ok 22 rfl rfl hb35.1 hb35.2 (by decide +kernel) rfl d_Mo_reckon_135 ?_
        exact jr_lv [0, 1, 2, 3] rfl (B_136 v1 v3 v4 (MS.w_m_hasBefore (MS.w_m_befores S (aU S.m_befores v5 (S.m_pointValues v4))) (aU S.m_hasBefore v5 1)) hs)
      intro v1 v3 v4 S hs
      rw [q_Mo_reckon_14] at hs
      refine jr_iload ok 3 d_Mo_reckon_14 rfl ?_
      refine jr_aload_n ok 0 d_Mo_reckon_16 rfl rfl ?_
      refine jr_get (v := .int (ii S.m_points)) ok 0 f_Mo_152 rfl rfl d_Mo_reckon_17 ?_
      refine jr_wicmp_ge 142 ok rfl rfl d_Mo_reckon_20 (by decide) (fun c19 => ?_) (fun c19 => ?_)
      · replace hs := oq_pos c19 hs
        refine jr_aload_n ok 0 d_Mo_reckon_142 rfl rfl ?_
        refine jr_dup rfl ok d_Mo_reckon_143 ?_
        refine jr_get (v := .int (ii S.m_pile)) ok 0 f_Mo_253 rfl rfl d_Mo_reckon_144 ?_
        refine jr_iconst ok d_Mo_reckon_147 ?_
        refine jr_iadd ok d_Mo_reckon_148 ?_
        refine jr_put (moL D g (MS.w_m_pile S (S.m_pile + 1))) ok 0 f_Mo_253 rfl rfl rfl (Nat.le_of_ble_eq_true rfl) rfl d_Mo_reckon_149 ?_
        refine jr_aload_n ok 0 d_Mo_reckon_152 rfl rfl ?_
        refine jr_iload_n ok 2 d_Mo_reckon_153 rfl rfl ?_
        obtain ⟨r20, S20, hc20, hs⟩ := mb2_some hs
        refine jr_mV0 ok hR m_Mo_273 (c_Mo_sweep (jx_l X) D g (MS.w_m_pile S (S.m_pile + 1)) v3 r20 S20 hc20) rfl rfl rfl rfl (Nat.le_of_ble_eq_true rfl) ⟨Nat.le_of_ble_eq_true rfl, Nat.le_of_ble_eq_true rfl⟩ ⟨Nat.zero_le _, Nat.zero_le _⟩ d_Mo_reckon_154 ?_
        exact jm_vret (Lf := moL D g) ok fin hs d_Mo_reckon_157
      · replace hs := oq_neg c19 hs
        refine jr_aload_n ok 0 d_Mo_reckon_23 rfl rfl ?_
        refine jr_get (v := .ref (g 5)) ok 0 f_Mo_26 rfl rfl d_Mo_reckon_24 ?_
        refine jr_iload ok 3 d_Mo_reckon_27 rfl ?_
        obtain ⟨hb21, hs⟩ := oq_if hs
        refine jr_iald ok 5 rfl rfl hb21.1 hb21.2 d_Mo_reckon_29 ?_
        refine jr_istore [(5, .int (ii (S.m_pointSeries v4))), (0, .ref (g 0)), (1, .int (ii v1)), (3, .int (ii v3)), (4, .int (ii v4))] ok d_Mo_reckon_30 (by rw [hN]; decide) rfl ?_
        refine jr_aload_n ok 1 d_Mo_reckon_32 rfl rfl ?_
        refine jr_iload ok 4 d_Mo_reckon_33 rfl ?_
        obtain ⟨r22, S22, hc22, hs⟩ := mb2_some hs
        refine jr_mV1 ok hR m_Mo_260 (c_Mo_isSeen (jx_l X) D g S v4 r22 S22 hc22) rfl rfl rfl rfl (Nat.le_of_ble_eq_true rfl) ⟨Nat.le_of_ble_eq_true rfl, Nat.le_of_ble_eq_true rfl⟩ ⟨Nat.zero_le _, Nat.zero_le _⟩ d_Mo_reckon_35 ?_
        refine jr_wif_ne 44 ok rfl d_Mo_reckon_38 (by decide) (fun c23 => ?_) (fun c23 => ?_)
        · replace hs := oq_neg c23 hs
          refine jr_aload_n ok 1 d_Mo_reckon_44 rfl rfl ?_
          refine jr_get (v := .ref (g 6)) ok 0 f_Mo_29 rfl rfl d_Mo_reckon_45 ?_
          refine jr_iload ok 4 d_Mo_reckon_48 rfl ?_
          obtain ⟨hb24, hs⟩ := oq_if hs
          refine jr_lald ok 6 rfl rfl hb24.1 hb24.2 d_Mo_reckon_50 ?_
          refine jr_aload_n ok 1 d_Mo_reckon_51 rfl rfl ?_
          refine jr_get (v := .long S22.m_windowsFrom) ok 0 f_Mo_263 rfl rfl d_Mo_reckon_52 ?_
          refine jr_lsubx ok d_Mo_reckon_55 ?_
          refine jr_lstore [(6, .long ((S22.m_pointTimes v4) - S22.m_windowsFrom)), (5, .int (ii (S.m_pointSeries v4))), (0, .ref (g 0)), (1, .int (ii v1)), (3, .int (ii v3)), (4, .int (ii v4))] ok d_Mo_reckon_56 (by rw [hN]; decide) rfl ?_
          refine jr_aload_n ok 2 d_Mo_reckon_58 rfl rfl ?_
          refine jr_get (v := .ref (g 18)) ok 0 f_Mo_67 rfl rfl d_Mo_reckon_59 ?_
          refine jr_iload ok 1 d_Mo_reckon_62 rfl ?_
          obtain ⟨hb25, hs⟩ := oq_if hs
          refine jr_iald ok 18 rfl rfl hb25.1 hb25.2 d_Mo_reckon_64 ?_
          refine jr_wif_lt 114 ok rfl d_Mo_reckon_65 (by decide) (fun c26 => ?_) (fun c26 => ?_)
          · replace hs := oq_pos c26 hs
            exact jr_lv [2, 3, 4, 5, 1] rfl (B_114 v1 v3 v4 (S.m_pointSeries v4) S22 hs)
          · replace hs := oq_neg c26 hs
            refine jr_lload ok 0 d_Mo_reckon_68 rfl ?_
            refine jr_lconst (z := 0) ok d_Mo_reckon_70 (by decide +kernel) ?_
            refine jr_lif_lt 114 ok rfl (ll_toInt ⟨by decide, by decide⟩) d_Mo_reckon_71 d_Mo_reckon_72 (by decide) (fun c27 => ?_) (fun c27 => ?_)
            · replace hs := oq_pos c27 hs
              exact jr_lv [2, 3, 4, 5, 1] rfl (B_114 v1 v3 v4 (S.m_pointSeries v4) S22 hs)
            · replace hs := oq_neg c27 hs
              refine jr_lload ok 0 d_Mo_reckon_75 rfl ?_
              refine jr_aload_n ok 2 d_Mo_reckon_77 rfl rfl ?_
              refine jr_get (v := .long S22.m_width) ok 0 f_Mo_266 rfl rfl d_Mo_reckon_78 ?_
              obtain ⟨hb28, hs⟩ := oq_if hs
              refine jr_ldivx ok d_Mo_reckon_81 hb28 ?_
              refine jr_aload_n ok 2 d_Mo_reckon_82 rfl rfl ?_
              refine jr_get (v := .int (ii S22.m_windows)) ok 0 f_Mo_234 rfl rfl d_Mo_reckon_83 ?_
              refine jr_wi2l ok rfl d_Mo_reckon_86 ?_
              refine jr_lif_ge 114 ok rfl rfl d_Mo_reckon_87 d_Mo_reckon_88 (by decide) (fun c29 => ?_) (fun c29 => ?_)
              · replace hs := oq_pos c29 hs
                exact jr_lv [2, 3, 4, 5, 1] rfl (B_114 v1 v3 v4 (S.m_pointSeries v4) S22 hs)
              · replace hs := oq_neg c29 hs
                refine jr_aload_n ok 2 d_Mo_reckon_91 rfl rfl ?_
                refine jr_iload_n ok 4 d_Mo_reckon_92 rfl rfl ?_
                refine jr_iload_n ok 3 d_Mo_reckon_93 rfl rfl ?_
                refine jr_iload ok 5 d_Mo_reckon_94 rfl ?_
                refine jr_aload_n ok 2 d_Mo_reckon_96 rfl rfl ?_
                refine jr_get (v := .ref (g 18)) ok 0 f_Mo_67 rfl rfl d_Mo_reckon_97 ?_
                refine jr_iload ok 1 d_Mo_reckon_100 rfl ?_
                obtain ⟨hb30, hs⟩ := oq_if hs
                refine jr_iald ok 18 rfl rfl hb30.1 hb30.2 d_Mo_reckon_102 ?_
                refine jr_lload ok 0 d_Mo_reckon_103 rfl ?_
                refine jr_aload_n ok 2 d_Mo_reckon_105 rfl rfl ?_
                refine jr_get (v := .long S22.m_width) ok 0 f_Mo_266 rfl rfl d_Mo_reckon_106 ?_
                obtain ⟨hb31, hs⟩ := oq_if hs
                refine jr_ldivx ok d_Mo_reckon_109 hb31 ?_
                refine jr_l2ix ok d_Mo_reckon_110 ?_
                obtain ⟨r32, S32, hc32, hs⟩ := mb2_some hs
                refine jr_mV0 ok hR m_Mo_269 (c_Mo_gather (jx_l X) D g S22 v3 v1 v4 (S22.m_rowOf (S.m_pointSeries v4)) ((((S22.m_pointTimes v4) - S22.m_windowsFrom) / S22.m_width).toInt) r32 S32 hc32) rfl rfl rfl rfl (Nat.le_of_ble_eq_true rfl) ⟨Nat.le_of_ble_eq_true rfl, Nat.le_of_ble_eq_true rfl⟩ ⟨Nat.zero_le _, Nat.zero_le _⟩ d_Mo_reckon_111 ?_
                exact jr_lv [2, 3, 4, 5, 1] rfl (B_114 v1 v3 v4 (S.m_pointSeries v4) S32 hs)
        · replace hs := oq_pos c23 hs
          refine jr_goto 136 ok d_Mo_reckon_41 (by decide) ?_
          exact jr_lv [1, 2, 3, 4] rfl (B_136 v1 v3 v4 S22 hs)
  show jw X 0 0 (moL D g S) [(0, .ref (g 0)), (1, .int (ii v1)), (2, .int (ii v2))] 0 []
  rw [s_Mo_reckon] at hs
  refine jr_aload_n ok 0 d_Mo_reckon_0 rfl rfl ?_
  refine jr_get (v := .int (ii S.m_pile)) ok 0 f_Mo_253 rfl rfl d_Mo_reckon_1 ?_
  refine jr_istore_n [(3, .int (ii S.m_pile)), (0, .ref (g 0)), (1, .int (ii v1)), (2, .int (ii v2))] ok d_Mo_reckon_4 rfl (by rw [hN]; decide) rfl ?_
  refine jr_aload_n ok 1 d_Mo_reckon_5 rfl rfl ?_
  refine jr_iload_n ok 0 d_Mo_reckon_6 rfl rfl ?_
  refine jr_iload_n ok 3 d_Mo_reckon_7 rfl rfl ?_
  obtain ⟨r36, S36, hc36, hs⟩ := mb2_some hs
  refine jr_mV0 ok hR m_Mo_256 (c_Mo_group (jx_l X) D g S S.m_pile v2 r36 S36 hc36) rfl rfl rfl rfl (Nat.le_of_ble_eq_true rfl) ⟨Nat.le_of_ble_eq_true rfl, Nat.le_of_ble_eq_true rfl⟩ ⟨Nat.zero_le _, Nat.zero_le _⟩ d_Mo_reckon_8 ?_
  refine jr_iconst ok d_Mo_reckon_11 ?_
  refine jr_istore [(4, .int (ii 0)), (3, .int (ii S.m_pile)), (0, .ref (g 0)), (1, .int (ii v1)), (2, .int (ii v2))] ok d_Mo_reckon_12 (by rw [hN]; decide) rfl ?_
  exact jr_lv [2, 3, 1, 0] rfl (B_14 fU v1 S.m_pile 0 S36 hs)

def q_Mo_series_124 (v4 : Int) (S : MS) : Option (Int × MS) := some (v4, MS.w_m_length S 0)

def q_Mo_series_84 (v3 : Int) (v4 : Int) (S : MS) : Option (Int × MS) := if w32 v4 = (-1) then if (0 : Int) ≤ S.m_seriesCount ∧ S.m_seriesCount < (256 : Int) then if (0 : Int) ≤ S.m_seriesCount ∧ S.m_seriesCount < (256 : Int) then q_Mo_series_124 S.m_seriesCount (MS.w_m_seriesCount (MS.w_m_lasts (MS.w_m_textLengths S (aU S.m_textLengths S.m_seriesCount v3)) (aU S.m_lasts S.m_seriesCount (ll (-1)))) (S.m_seriesCount + 1)) else none else none else q_Mo_series_124 v4 S

def s_Mo_series (S : MS)  : Option (Int × MS) := mb2 (s_Mo_readLabels (MS.w_m_faultPlace (MS.w_m_faultCode (MS.w_m_code S 0) 0) 0) ) (fun r13 S13 => if w32 r13 = 0 then some (-1, MS.w_m_length S13 0) else mb2 (s_Mo_layText S13 ) (fun r15 S15 => mb2 (s_Mo_find S15 r15) (fun r16 S16 => if w32 r16 = (-1) then if w32 S16.m_seriesCount = 256 then some (0, MS.w_m_faultPlace (MS.w_m_faultCode (MS.w_m_code S16 1) S.m_faultCode) S.m_faultPlace) else q_Mo_series_84 r15 r16 S16 else q_Mo_series_84 r15 r16 S16)))
set_option maxHeartbeats 4000000 in
set_option maxRecDepth 100000 in
theorem c_Mo_series (l : Launch) (D : jd_T) (g : Nat → Nat) (S : MS)  (r : Int) (S9 : MS) (hs : s_Mo_series S  = some (r, S9)) : jc_C l D y_Mo_series b_Mo_series 5 (some .int) { frames := 3, cells := 0, slots := 0, locals := 67 } [.ref (g 0)] (moL D g S) (fun _ : Unit => (.returned (some (.int (ii r))), True, (moL D g S9))) := by
  refine jc_of rfl (Nat.le_of_ble_eq_true rfl) ?_
  intro X hl hR hN ok hnm fin
  subst hl
  have B_124 : ∀ (v4 : Int) (S : MS), q_Mo_series_124 v4 S = some (r, S9) → jw X 0 0 (moL D g S) [(0, .ref (g 0)), (4, .int (ii v4))] 124 [] := by
    intro v4 S hs
    rw [q_Mo_series_124] at hs
    refine jr_aload_n ok 0 d_Mo_series_124 rfl rfl ?_
    refine jr_iconst ok d_Mo_series_125 ?_
    refine jr_put (moL D g (MS.w_m_length S 0)) ok 0 f_Mo_105 rfl rfl rfl (Nat.le_of_ble_eq_true rfl) rfl d_Mo_series_126 ?_
    refine jr_iload ok 1 d_Mo_series_129 rfl ?_
    exact jm_iret (Lf := moL D g) ok fin hs d_Mo_series_131
  have B_84 : ∀ (v3 : Int) (v4 : Int) (S : MS), q_Mo_series_84 v3 v4 S = some (r, S9) → jw X 0 0 (moL D g S) [(0, .ref (g 0)), (3, .int (ii v3)), (4, .int (ii v4))] 84 [] := by
    intro v3 v4 S hs
    rw [q_Mo_series_84] at hs
    refine jr_iload ok 2 d_Mo_series_84 rfl ?_
    refine jr_iconst ok d_Mo_series_86 ?_
    refine jr_wicmp_ne 124 ok rfl (show w32 (-1) = (-1) by decide) d_Mo_series_87 (by decide) (fun c10 => ?_) (fun c10 => ?_)
    · replace hs := oq_neg c10 hs
      exact jr_lv [0, 2] rfl (B_124 v4 S hs)
    · replace hs := oq_pos c10 hs
      refine jr_aload_n ok 0 d_Mo_series_90 rfl rfl ?_
      refine jr_get (v := .int (ii S.m_seriesCount)) ok 0 f_Mo_133 rfl rfl d_Mo_series_91 ?_
      refine jr_istore [(4, .int (ii S.m_seriesCount)), (0, .ref (g 0)), (3, .int (ii v3))] ok d_Mo_series_94 (by rw [hN]; decide) rfl ?_
      refine jr_aload_n ok 1 d_Mo_series_96 rfl rfl ?_
      refine jr_get (v := .ref (g 3)) ok 0 f_Mo_18 rfl rfl d_Mo_series_97 ?_
      refine jr_iload ok 0 d_Mo_series_100 rfl ?_
      refine jr_iload_n ok 2 d_Mo_series_102 rfl rfl ?_
      obtain ⟨hb11, hs⟩ := oq_if hs
      refine jr_iast (moL D g (MS.w_m_textLengths S (aU S.m_textLengths S.m_seriesCount v3))) ok 3 rfl rfl hb11.1 hb11.2  rfl d_Mo_series_103 ?_
      refine jr_aload_n ok 1 d_Mo_series_104 rfl rfl ?_
      refine jr_get (v := .ref (g 4)) ok 0 f_Mo_22 rfl rfl d_Mo_series_105 ?_
      refine jr_iload ok 0 d_Mo_series_108 rfl ?_
      refine jr_ldc2 (z := -1) ok w_1570 (by decide +kernel) d_Mo_series_110 ?_
      obtain ⟨hb12, hs⟩ := oq_if hs
      refine jr_last (moL D g (MS.w_m_lasts (MS.w_m_textLengths S (aU S.m_textLengths S.m_seriesCount v3)) (aU S.m_lasts S.m_seriesCount (ll (-1))))) ok 4 rfl rfl hb12.1 hb12.2  rfl d_Mo_series_113 ?_
      refine jr_aload_n ok 1 d_Mo_series_114 rfl rfl ?_
      refine jr_dup rfl ok d_Mo_series_115 ?_
      refine jr_get (v := .int (ii S.m_seriesCount)) ok 0 f_Mo_133 rfl rfl d_Mo_series_116 ?_
      refine jr_iconst ok d_Mo_series_119 ?_
      refine jr_iadd ok d_Mo_series_120 ?_
      refine jr_put (moL D g (MS.w_m_seriesCount (MS.w_m_lasts (MS.w_m_textLengths S (aU S.m_textLengths S.m_seriesCount v3)) (aU S.m_lasts S.m_seriesCount (ll (-1)))) (S.m_seriesCount + 1))) ok 0 f_Mo_133 rfl rfl rfl (Nat.le_of_ble_eq_true rfl) rfl d_Mo_series_121 ?_
      exact jr_lv [1, 0] rfl (B_124 S.m_seriesCount (MS.w_m_seriesCount (MS.w_m_lasts (MS.w_m_textLengths S (aU S.m_textLengths S.m_seriesCount v3)) (aU S.m_lasts S.m_seriesCount (ll (-1)))) (S.m_seriesCount + 1)) hs)
  show jw X 0 0 (moL D g S) [(0, .ref (g 0))] 0 []
  rw [s_Mo_series] at hs
  refine jr_aload_n ok 0 d_Mo_series_0 rfl rfl ?_
  refine jr_iconst ok d_Mo_series_1 ?_
  refine jr_put (moL D g (MS.w_m_code S 0)) ok 0 f_Mo_101 rfl rfl rfl (Nat.le_of_ble_eq_true rfl) rfl d_Mo_series_2 ?_
  refine jr_aload_n ok 0 d_Mo_series_5 rfl rfl ?_
  refine jr_get (v := .int (ii S.m_faultCode)) ok 0 f_Mo_108 rfl rfl d_Mo_series_6 ?_
  refine jr_istore_n [(1, .int (ii S.m_faultCode)), (0, .ref (g 0))] ok d_Mo_series_9 rfl (by rw [hN]; decide) rfl ?_
  refine jr_aload_n ok 1 d_Mo_series_10 rfl rfl ?_
  refine jr_get (v := .int (ii S.m_faultPlace)) ok 0 f_Mo_111 rfl rfl d_Mo_series_11 ?_
  refine jr_istore_n [(2, .int (ii S.m_faultPlace)), (1, .int (ii S.m_faultCode)), (0, .ref (g 0))] ok d_Mo_series_14 rfl (by rw [hN]; decide) rfl ?_
  refine jr_aload_n ok 2 d_Mo_series_15 rfl rfl ?_
  refine jr_iconst ok d_Mo_series_16 ?_
  refine jr_put (moL D g (MS.w_m_faultCode (MS.w_m_code S 0) 0)) ok 0 f_Mo_108 rfl rfl rfl (Nat.le_of_ble_eq_true rfl) rfl d_Mo_series_17 ?_
  refine jr_aload_n ok 2 d_Mo_series_20 rfl rfl ?_
  refine jr_iconst ok d_Mo_series_21 ?_
  refine jr_put (moL D g (MS.w_m_faultPlace (MS.w_m_faultCode (MS.w_m_code S 0) 0) 0)) ok 0 f_Mo_111 rfl rfl rfl (Nat.le_of_ble_eq_true rfl) rfl d_Mo_series_22 ?_
  refine jr_aload_n ok 2 d_Mo_series_25 rfl rfl ?_
  obtain ⟨r13, S13, hc13, hs⟩ := mb2_some hs
  refine jr_mV1 ok hR m_Mo_136 (c_Mo_readLabels (jx_l X) D g (MS.w_m_faultPlace (MS.w_m_faultCode (MS.w_m_code S 0) 0) 0)  r13 S13 hc13) rfl rfl rfl rfl (Nat.le_of_ble_eq_true rfl) ⟨Nat.le_of_ble_eq_true rfl, Nat.le_of_ble_eq_true rfl⟩ ⟨Nat.zero_le _, Nat.zero_le _⟩ d_Mo_series_26 ?_
  refine jr_wif_ne 39 ok rfl d_Mo_series_29 (by decide) (fun c14 => ?_) (fun c14 => ?_)
  · replace hs := oq_neg c14 hs
    refine jr_aload_n ok 2 d_Mo_series_39 rfl rfl ?_
    obtain ⟨r15, S15, hc15, hs⟩ := mb2_some hs
    refine jr_mV1 ok hR m_Mo_140 (c_Mo_layText (jx_l X) D g S13  r15 S15 hc15) rfl rfl rfl rfl (Nat.le_of_ble_eq_true rfl) ⟨Nat.le_of_ble_eq_true rfl, Nat.le_of_ble_eq_true rfl⟩ ⟨Nat.zero_le _, Nat.zero_le _⟩ d_Mo_series_40 ?_
    refine jr_istore_n [(3, .int (ii r15)), (2, .int (ii S.m_faultPlace)), (1, .int (ii S.m_faultCode)), (0, .ref (g 0))] ok d_Mo_series_43 rfl (by rw [hN]; decide) rfl ?_
    refine jr_aload_n ok 3 d_Mo_series_44 rfl rfl ?_
    refine jr_iload_n ok 0 d_Mo_series_45 rfl rfl ?_
    obtain ⟨r16, S16, hc16, hs⟩ := mb2_some hs
    refine jr_mV1 ok hR m_Mo_144 (c_Mo_find (jx_l X) D g S15 r15 r16 S16 hc16) rfl rfl rfl rfl (Nat.le_of_ble_eq_true rfl) ⟨Nat.le_of_ble_eq_true rfl, Nat.le_of_ble_eq_true rfl⟩ ⟨Nat.zero_le _, Nat.zero_le _⟩ d_Mo_series_46 ?_
    refine jr_istore [(4, .int (ii r16)), (3, .int (ii r15)), (2, .int (ii S.m_faultPlace)), (1, .int (ii S.m_faultCode)), (0, .ref (g 0))] ok d_Mo_series_49 (by rw [hN]; decide) rfl ?_
    refine jr_iload ok 0 d_Mo_series_51 rfl ?_
    refine jr_iconst ok d_Mo_series_53 ?_
    refine jr_wicmp_ne 84 ok rfl (show w32 (-1) = (-1) by decide) d_Mo_series_54 (by decide) (fun c17 => ?_) (fun c17 => ?_)
    · replace hs := oq_neg c17 hs
      exact jr_lv [4, 1, 0] rfl (B_84 r15 r16 S16 hs)
    · replace hs := oq_pos c17 hs
      refine jr_aload_n ok 4 d_Mo_series_57 rfl rfl ?_
      refine jr_get (v := .int (ii S16.m_seriesCount)) ok 0 f_Mo_133 rfl rfl d_Mo_series_58 ?_
      refine jr_sipush ok d_Mo_series_61 (by decide +kernel) ?_
      refine jr_wicmp_ne 84 ok rfl (show w32 256 = 256 by decide) d_Mo_series_64 (by decide) (fun c18 => ?_) (fun c18 => ?_)
      · replace hs := oq_neg c18 hs
        exact jr_lv [4, 1, 0] rfl (B_84 r15 r16 S16 hs)
      · replace hs := oq_pos c18 hs
        refine jr_aload_n ok 4 d_Mo_series_67 rfl rfl ?_
        refine jr_iconst ok d_Mo_series_68 ?_
        refine jr_put (moL D g (MS.w_m_code S16 1)) ok 0 f_Mo_101 rfl rfl rfl (Nat.le_of_ble_eq_true rfl) rfl d_Mo_series_69 ?_
        refine jr_aload_n ok 4 d_Mo_series_72 rfl rfl ?_
        refine jr_iload_n ok 3 d_Mo_series_73 rfl rfl ?_
        refine jr_put (moL D g (MS.w_m_faultCode (MS.w_m_code S16 1) S.m_faultCode)) ok 0 f_Mo_108 rfl rfl rfl (Nat.le_of_ble_eq_true rfl) rfl d_Mo_series_74 ?_
        refine jr_aload_n ok 4 d_Mo_series_77 rfl rfl ?_
        refine jr_iload_n ok 2 d_Mo_series_78 rfl rfl ?_
        refine jr_put (moL D g (MS.w_m_faultPlace (MS.w_m_faultCode (MS.w_m_code S16 1) S.m_faultCode) S.m_faultPlace)) ok 0 f_Mo_111 rfl rfl rfl (Nat.le_of_ble_eq_true rfl) rfl d_Mo_series_79 ?_
        refine jr_iconst ok d_Mo_series_82 ?_
        exact jm_iret (Lf := moL D g) ok fin hs d_Mo_series_83
  · replace hs := oq_pos c14 hs
    refine jr_aload_n ok 2 d_Mo_series_32 rfl rfl ?_
    refine jr_iconst ok d_Mo_series_33 ?_
    refine jr_put (moL D g (MS.w_m_length S13 0)) ok 0 f_Mo_105 rfl rfl rfl (Nat.le_of_ble_eq_true rfl) rfl d_Mo_series_34 ?_
    refine jr_iconst ok d_Mo_series_37 ?_
    exact jm_iret (Lf := moL D g) ok fin hs d_Mo_series_38

def s_Mo_opens (S : MS) (v1 : Int) : Option (Int × MS) := if w32 S.m_open = 8 then mb2 (s_Mo_flaw S 3 S.m_from) (fun r13 S13 => if r13 = 0 ∨ r13 = 1 then some (r13, S13) else none) else if (0 : Int) ≤ S.m_signCount ∧ S.m_signCount < (32 : Int) then if (0 : Int) ≤ S.m_signCount ∧ S.m_signCount < (32 : Int) then mb2 (s_Mo_next (MS.w_m_signCount (MS.w_m_signPlaces (MS.w_m_signs (MS.w_m_open S (S.m_open + 1)) (aU S.m_signs S.m_signCount v1)) (aU S.m_signPlaces S.m_signCount S.m_from)) (S.m_signCount + 1)) ) (fun r11 S11 => if r11 = 0 ∨ r11 = 1 then some (r11, S11) else none) else none else none
set_option maxHeartbeats 4000000 in
set_option maxRecDepth 100000 in
theorem c_Mo_opens (l : Launch) (D : jd_T) (g : Nat → Nat) (S : MS) (v1 : Int) (r : Int) (S9 : MS) (hs : s_Mo_opens S v1 = some (r, S9)) : jc_C l D y_Mo_opens b_Mo_opens 2 (some .boolean) { frames := 3, cells := 0, slots := 0, locals := 67 } [.ref (g 0), .int (ii v1)] (moL D g S) (fun _ : Unit => (.returned (some (.int (ii r))), True, (moL D g S9))) := by
  refine jc_of rfl (Nat.le_of_ble_eq_true rfl) ?_
  intro X hl hR hN ok hnm fin
  subst hl
  show jw X 0 0 (moL D g S) [(0, .ref (g 0)), (1, .int (ii v1))] 0 []
  rw [s_Mo_opens] at hs
  refine jr_aload_n ok 0 d_Mo_opens_0 rfl rfl ?_
  refine jr_get (v := .int (ii S.m_open)) ok 0 f_Mo_291 rfl rfl d_Mo_opens_1 ?_
  refine jr_bipush ok d_Mo_opens_4 (by decide +kernel) ?_
  refine jr_wicmp_ne 19 ok rfl (show w32 8 = 8 by decide) d_Mo_opens_6 (by decide) (fun c8 => ?_) (fun c8 => ?_)
  · replace hs := oq_neg c8 hs
    refine jr_aload_n ok 0 d_Mo_opens_19 rfl rfl ?_
    refine jr_dup rfl ok d_Mo_opens_20 ?_
    refine jr_get (v := .int (ii S.m_open)) ok 0 f_Mo_291 rfl rfl d_Mo_opens_21 ?_
    refine jr_iconst ok d_Mo_opens_24 ?_
    refine jr_iadd ok d_Mo_opens_25 ?_
    refine jr_put (moL D g (MS.w_m_open S (S.m_open + 1))) ok 0 f_Mo_291 rfl rfl rfl (Nat.le_of_ble_eq_true rfl) rfl d_Mo_opens_26 ?_
    refine jr_aload_n ok 0 d_Mo_opens_29 rfl rfl ?_
    refine jr_get (v := .ref (g 23)) ok 0 f_Mo_82 rfl rfl d_Mo_opens_30 ?_
    refine jr_aload_n ok 0 d_Mo_opens_33 rfl rfl ?_
    refine jr_get (v := .int (ii S.m_signCount)) ok 0 f_Mo_294 rfl rfl d_Mo_opens_34 ?_
    refine jr_iload_n ok 1 d_Mo_opens_37 rfl rfl ?_
    obtain ⟨hb9, hs⟩ := oq_if hs
    refine jr_iast (moL D g (MS.w_m_signs (MS.w_m_open S (S.m_open + 1)) (aU S.m_signs S.m_signCount v1))) ok 23 rfl rfl hb9.1 hb9.2  rfl d_Mo_opens_38 ?_
    refine jr_aload_n ok 0 d_Mo_opens_39 rfl rfl ?_
    refine jr_get (v := .ref (g 24)) ok 0 f_Mo_85 rfl rfl d_Mo_opens_40 ?_
    refine jr_aload_n ok 0 d_Mo_opens_43 rfl rfl ?_
    refine jr_get (v := .int (ii S.m_signCount)) ok 0 f_Mo_294 rfl rfl d_Mo_opens_44 ?_
    refine jr_aload_n ok 0 d_Mo_opens_47 rfl rfl ?_
    refine jr_get (v := .int (ii S.m_from)) ok 0 f_Mo_195 rfl rfl d_Mo_opens_48 ?_
    obtain ⟨hb10, hs⟩ := oq_if hs
    refine jr_iast (moL D g (MS.w_m_signPlaces (MS.w_m_signs (MS.w_m_open S (S.m_open + 1)) (aU S.m_signs S.m_signCount v1)) (aU S.m_signPlaces S.m_signCount S.m_from))) ok 24 rfl rfl hb10.1 hb10.2  rfl d_Mo_opens_51 ?_
    refine jr_aload_n ok 0 d_Mo_opens_52 rfl rfl ?_
    refine jr_dup rfl ok d_Mo_opens_53 ?_
    refine jr_get (v := .int (ii S.m_signCount)) ok 0 f_Mo_294 rfl rfl d_Mo_opens_54 ?_
    refine jr_iconst ok d_Mo_opens_57 ?_
    refine jr_iadd ok d_Mo_opens_58 ?_
    refine jr_put (moL D g (MS.w_m_signCount (MS.w_m_signPlaces (MS.w_m_signs (MS.w_m_open S (S.m_open + 1)) (aU S.m_signs S.m_signCount v1)) (aU S.m_signPlaces S.m_signCount S.m_from)) (S.m_signCount + 1))) ok 0 f_Mo_294 rfl rfl rfl (Nat.le_of_ble_eq_true rfl) rfl d_Mo_opens_59 ?_
    refine jr_aload_n ok 0 d_Mo_opens_62 rfl rfl ?_
    obtain ⟨r11, S11, hc11, hs⟩ := mb2_some hs
    refine jr_mV1 ok hR m_Mo_223 (c_Mo_next (jx_l X) D g (MS.w_m_signCount (MS.w_m_signPlaces (MS.w_m_signs (MS.w_m_open S (S.m_open + 1)) (aU S.m_signs S.m_signCount v1)) (aU S.m_signPlaces S.m_signCount S.m_from)) (S.m_signCount + 1))  r11 S11 hc11) rfl rfl rfl rfl (Nat.le_of_ble_eq_true rfl) ⟨Nat.le_of_ble_eq_true rfl, Nat.le_of_ble_eq_true rfl⟩ ⟨Nat.zero_le _, Nat.zero_le _⟩ d_Mo_opens_63 ?_
    obtain ⟨hb12, hs⟩ := oq_if hs
    exact jm_zret (Lf := moL D g) ok (nz_b hb12) fin hs d_Mo_opens_66
  · replace hs := oq_pos c8 hs
    refine jr_aload_n ok 0 d_Mo_opens_9 rfl rfl ?_
    refine jr_iconst ok d_Mo_opens_10 ?_
    refine jr_aload_n ok 0 d_Mo_opens_11 rfl rfl ?_
    refine jr_get (v := .int (ii S.m_from)) ok 0 f_Mo_195 rfl rfl d_Mo_opens_12 ?_
    obtain ⟨r13, S13, hc13, hs⟩ := mb2_some hs
    refine jr_mV1 ok hR m_Mo_125 (c_Mo_flaw (jx_l X) D g S 3 S.m_from r13 S13 hc13) rfl rfl rfl rfl (Nat.le_of_ble_eq_true rfl) ⟨Nat.le_of_ble_eq_true rfl, Nat.le_of_ble_eq_true rfl⟩ ⟨Nat.zero_le _, Nat.zero_le _⟩ d_Mo_opens_15 ?_
    obtain ⟨hb14, hs⟩ := oq_if hs
    exact jm_zret (Lf := moL D g) ok (nz_b hb14) fin hs d_Mo_opens_18

def s_Mo_need (S : MS) (v1 : Int) : Option (Int × MS) := if w32 S.m_kind = w32 v1 then mb2 (s_Mo_next S ) (fun r9 S9 => if r9 = 0 ∨ r9 = 1 then some (r9, S9) else none) else mb2 (s_Mo_flaw S 2 S.m_from) (fun r7 S7 => if r7 = 0 ∨ r7 = 1 then some (r7, S7) else none)
set_option maxHeartbeats 4000000 in
set_option maxRecDepth 100000 in
theorem c_Mo_need (l : Launch) (D : jd_T) (g : Nat → Nat) (S : MS) (v1 : Int) (r : Int) (S9 : MS) (hs : s_Mo_need S v1 = some (r, S9)) : jc_C l D y_Mo_need b_Mo_need 2 (some .boolean) { frames := 3, cells := 0, slots := 0, locals := 67 } [.ref (g 0), .int (ii v1)] (moL D g S) (fun _ : Unit => (.returned (some (.int (ii r))), True, (moL D g S9))) := by
  refine jc_of rfl (Nat.le_of_ble_eq_true rfl) ?_
  intro X hl hR hN ok hnm fin
  subst hl
  show jw X 0 0 (moL D g S) [(0, .ref (g 0)), (1, .int (ii v1))] 0 []
  rw [s_Mo_need] at hs
  refine jr_aload_n ok 0 d_Mo_need_0 rfl rfl ?_
  refine jr_get (v := .int (ii S.m_kind)) ok 0 f_Mo_201 rfl rfl d_Mo_need_1 ?_
  refine jr_iload_n ok 1 d_Mo_need_4 rfl rfl ?_
  refine jr_wicmp_ne 15 ok rfl rfl d_Mo_need_5 (by decide) (fun c6 => ?_) (fun c6 => ?_)
  · replace hs := oq_neg c6 hs
    refine jr_aload_n ok 0 d_Mo_need_15 rfl rfl ?_
    refine jr_iconst ok d_Mo_need_16 ?_
    refine jr_aload_n ok 0 d_Mo_need_17 rfl rfl ?_
    refine jr_get (v := .int (ii S.m_from)) ok 0 f_Mo_195 rfl rfl d_Mo_need_18 ?_
    obtain ⟨r7, S7, hc7, hs⟩ := mb2_some hs
    refine jr_mV1 ok hR m_Mo_125 (c_Mo_flaw (jx_l X) D g S 2 S.m_from r7 S7 hc7) rfl rfl rfl rfl (Nat.le_of_ble_eq_true rfl) ⟨Nat.le_of_ble_eq_true rfl, Nat.le_of_ble_eq_true rfl⟩ ⟨Nat.zero_le _, Nat.zero_le _⟩ d_Mo_need_21 ?_
    obtain ⟨hb8, hs⟩ := oq_if hs
    exact jm_zret (Lf := moL D g) ok (nz_b hb8) fin hs d_Mo_need_24
  · replace hs := oq_pos c6 hs
    refine jr_aload_n ok 0 d_Mo_need_8 rfl rfl ?_
    obtain ⟨r9, S9, hc9, hs⟩ := mb2_some hs
    refine jr_mV1 ok hR m_Mo_223 (c_Mo_next (jx_l X) D g S  r9 S9 hc9) rfl rfl rfl rfl (Nat.le_of_ble_eq_true rfl) ⟨Nat.le_of_ble_eq_true rfl, Nat.le_of_ble_eq_true rfl⟩ ⟨Nat.zero_le _, Nat.zero_le _⟩ d_Mo_need_9 ?_
    refine jr_goto 24 ok d_Mo_need_12 (by decide) ?_
    obtain ⟨hb10, hs⟩ := oq_if hs
    exact jm_zret (Lf := moL D g) ok (nz_b hb10) fin hs d_Mo_need_24

def q_Mo_by_306 (k25 : Int → Int → MS → Option (Int × MS)) (v1 : Int) (v2 : Int) (S : MS) : Option (Int × MS) := k25 v1 v2 S

def q_Mo_by_292 (k25 : Int → Int → MS → Option (Int × MS)) (v1 : Int) (t0 : Int) (S : MS) : Option (Int × MS) := if w32 t0 = 0 then q_Mo_by_306 k25 v1 t0 S else mb2 (s_Mo_next S ) (fun r73 S73 => if w32 r73 = 0 then some (0, S73) else q_Mo_by_306 k25 v1 t0 S73)

def q_Mo_by_193 (k25 : Int → Int → MS → Option (Int × MS)) (k67 : Int → Int → Int → MS → Option (Int × MS)) (v1 : Int) (v4 : Int) (t0 : Int) (S : MS) : Option (Int × MS) := k67 v1 t0 (v4 + 1) S

def q_Mo_by_188 (k25 : Int → Int → MS → Option (Int × MS)) (k67 : Int → Int → Int → MS → Option (Int × MS)) (v1 : Int) (v4 : Int) (S : MS) : Option (Int × MS) := q_Mo_by_193 k25 k67 v1 v4 1 S

def q_Mo_by_179 (k25 : Int → Int → MS → Option (Int × MS)) (k67 : Int → Int → Int → MS → Option (Int × MS)) (v1 : Int) (v3 : Int) (v4 : Int) (v5 : Int) (S : MS) : Option (Int × MS) := if w32 v3 = 0 then if w32 v5 = 0 then q_Mo_by_193 k25 k67 v1 v4 0 S else q_Mo_by_188 k25 k67 v1 v4 S else q_Mo_by_188 k25 k67 v1 v4 S

def q_Mo_by_171 (k25 : Int → Int → MS → Option (Int × MS)) (k67 : Int → Int → Int → MS → Option (Int × MS)) (k112 : Int → Int → Int → Int → Int → MS → Option (Int × MS)) (v1 : Int) (v3 : Int) (v4 : Int) (v6 : Int) (t0 : Int) (S : MS) : Option (Int × MS) := k112 v1 v3 v4 t0 (v6 + 1) S

def q_Mo_by_112 (k25 : Int → Int → MS → Option (Int × MS)) (k67 : Int → Int → Int → MS → Option (Int × MS)) : Nat → Int → Int → Int → Int → Int → MS → Option (Int × MS)
  | 0, _, _, _, _, _, _ => none
  | n + 1, v1, v3, v4, v5, v6, S => if w32 (S.m_to - S.m_from) ≤ w32 v6 then q_Mo_by_179 k25 k67 v1 v3 v4 v5 S else if w32 v5 = 0 then q_Mo_by_179 k25 k67 v1 v3 v4 v5 S else if (0 : Int) ≤ ((6 * v1) + v4) ∧ ((6 * v1) + v4) < (120 : Int) then if (0 : Int) ≤ ((S.m_nameFroms ((6 * v1) + v4)) + v6) ∧ ((S.m_nameFroms ((6 * v1) + v4)) + v6) < (65536 : Int) then if (0 : Int) ≤ (S.m_from + v6) ∧ (S.m_from + v6) < (65536 : Int) then if w32 (S.m_tape ((S.m_nameFroms ((6 * v1) + v4)) + v6)) = w32 (S.m_tape (S.m_from + v6)) then q_Mo_by_171 k25 k67 (q_Mo_by_112 k25 k67 n) v1 v3 v4 v6 1 S else q_Mo_by_171 k25 k67 (q_Mo_by_112 k25 k67 n) v1 v3 v4 v6 0 S else none else none else none

def q_Mo_by_107 (k25 : Int → Int → MS → Option (Int × MS)) (k67 : Int → Int → Int → MS → Option (Int × MS)) (v1 : Int) (v3 : Int) (v4 : Int) (t0 : Int) (S : MS) : Option (Int × MS) := q_Mo_by_112 k25 k67 fU v1 v3 v4 t0 0 S

def q_Mo_by_67 (k25 : Int → Int → MS → Option (Int × MS)) : Nat → Int → Int → Int → MS → Option (Int × MS)
  | 0, _, _, _, _ => none
  | n + 1, v1, v3, v4, S => if (0 : Int) ≤ v1 ∧ v1 < (20 : Int) then if w32 (S.m_tableNames v1) ≤ w32 v4 then if w32 v3 = 0 then if (0 : Int) ≤ v1 ∧ v1 < (20 : Int) then if (0 : Int) ≤ ((6 * v1) + (S.m_tableNames v1)) ∧ ((6 * v1) + (S.m_tableNames v1)) < (120 : Int) then if (0 : Int) ≤ v1 ∧ v1 < (20 : Int) then if (0 : Int) ≤ ((6 * v1) + (S.m_tableNames v1)) ∧ ((6 * v1) + (S.m_tableNames v1)) < (120 : Int) then if (0 : Int) ≤ v1 ∧ v1 < (20 : Int) then if (0 : Int) ≤ v1 ∧ v1 < (20 : Int) then mb2 (s_Mo_next (MS.w_m_tableNames (MS.w_m_nameLengths (MS.w_m_nameFroms S (aU S.m_nameFroms ((6 * v1) + (S.m_tableNames v1)) S.m_from)) (aU S.m_nameLengths ((6 * v1) + (S.m_tableNames v1)) (S.m_to - S.m_from))) (aU S.m_tableNames v1 ((S.m_tableNames v1) + 1))) ) (fun r57 S57 => if w32 r57 = 0 then some (0, S57) else if w32 S57.m_kind = 44 then q_Mo_by_292 k25 v1 1 S57 else q_Mo_by_292 k25 v1 0 S57) else none else none else none else none else none else none else mb2 (s_Mo_flaw S 4 S.m_from) (fun r60 S60 => if r60 = 0 ∨ r60 = 1 then some (r60, S60) else none) else if (0 : Int) ≤ ((6 * v1) + v4) ∧ ((6 * v1) + v4) < (120 : Int) then if w32 (S.m_nameLengths ((6 * v1) + v4)) = w32 (S.m_to - S.m_from) then q_Mo_by_107 k25 (q_Mo_by_67 k25 n) v1 v3 v4 1 S else q_Mo_by_107 k25 (q_Mo_by_67 k25 n) v1 v3 v4 0 S else none else none

def q_Mo_by_63 (k25 : Int → Int → MS → Option (Int × MS)) (v1 : Int) (t0 : Int) (S : MS) : Option (Int × MS) := q_Mo_by_67 k25 fU v1 t0 0 S

def q_Mo_by_25 : Nat → Int → Int → MS → Option (Int × MS)
  | 0, _, _, _ => none
  | n + 1, v1, v2, S => if w32 v2 = 0 then mb2 (s_Mo_need S 41) (fun r41 S41 => if r41 = 0 ∨ r41 = 1 then some (r41, S41) else none) else if w32 S.m_kind = 2 then if (0 : Int) ≤ v1 ∧ v1 < (20 : Int) then if w32 (S.m_tableNames v1) = 6 then q_Mo_by_63 (q_Mo_by_25 n) v1 1 S else q_Mo_by_63 (q_Mo_by_25 n) v1 0 S else none else mb2 (s_Mo_flaw S 2 S.m_from) (fun r46 S46 => if r46 = 0 ∨ r46 = 1 then some (r46, S46) else none)

def s_Mo_by (S : MS)  : Option (Int × MS) := mb2 (s_Mo_next S ) (fun r75 S75 => if w32 r75 = 0 then some (0, S75) else mb2 (s_Mo_need S75 40) (fun r77 S77 => if w32 r77 = 0 then some (0, S77) else q_Mo_by_25 fU S.m_pile 1 S77))
set_option maxHeartbeats 4000000 in
set_option maxRecDepth 100000 in
theorem c_Mo_by (l : Launch) (D : jd_T) (g : Nat → Nat) (S : MS)  (r : Int) (S9 : MS) (hs : s_Mo_by S  = some (r, S9)) : jc_C l D y_Mo_by b_Mo_by 7 (some .boolean) { frames := 4, cells := 0, slots := 0, locals := 88 } [.ref (g 0)] (moL D g S) (fun _ : Unit => (.returned (some (.int (ii r))), True, (moL D g S9))) := by
  refine jc_of rfl (Nat.le_of_ble_eq_true rfl) ?_
  intro X hl hR hN ok hnm fin
  subst hl
  have B_25 : ∀ (n25 : Nat), ∀ (v1 : Int) (v2 : Int) (S : MS), q_Mo_by_25 n25 v1 v2 S = some (r, S9) → jw X 0 0 (moL D g S) [(0, .ref (g 0)), (1, .int (ii v1)), (2, .int (ii v2))] 25 [] := by
    intro n25
    induction n25 with
    | zero =>
      intro v1 v2 S hs
      rw [q_Mo_by_25] at hs; cases hs
    | succ n25 ih25 =>
      have B_306 : ∀ (v1 : Int) (v2 : Int) (S : MS), q_Mo_by_306 (q_Mo_by_25 n25) v1 v2 S = some (r, S9) → jw X 0 0 (moL D g S) [(0, .ref (g 0)), (1, .int (ii v1)), (2, .int (ii v2))] 306 [] := by
        intro v1 v2 S hs
        rw [q_Mo_by_306] at hs
        refine jr_goto 25 ok d_Mo_by_306 (by decide) ?_
        exact jr_lv [0, 1, 2] rfl (ih25 v1 v2 S hs)
      have B_292 : ∀ (v1 : Int) (t0 : Int) (S : MS), q_Mo_by_292 (q_Mo_by_25 n25) v1 t0 S = some (r, S9) → jw X 0 0 (moL D g S) [(0, .ref (g 0)), (1, .int (ii v1))] 292 [.int (ii t0)] := by
        intro v1 t0 S hs
        rw [q_Mo_by_292] at hs
        refine jr_istore_n [(2, .int (ii t0)), (0, .ref (g 0)), (1, .int (ii v1))] ok d_Mo_by_292 rfl (by rw [hN]; decide) rfl ?_
        refine jr_iload_n ok 0 d_Mo_by_293 rfl rfl ?_
        refine jr_wif_eq 306 ok rfl d_Mo_by_294 (by decide) (fun c72 => ?_) (fun c72 => ?_)
        · replace hs := oq_pos c72 hs
          exact jr_lv [1, 2, 0] rfl (B_306 v1 t0 S hs)
        · replace hs := oq_neg c72 hs
          refine jr_aload_n ok 1 d_Mo_by_297 rfl rfl ?_
          obtain ⟨r73, S73, hc73, hs⟩ := mb2_some hs
          refine jr_mV1 ok hR m_Mo_223 (c_Mo_next (jx_l X) D g S  r73 S73 hc73) rfl rfl rfl rfl (Nat.le_of_ble_eq_true rfl) ⟨Nat.le_of_ble_eq_true rfl, Nat.le_of_ble_eq_true rfl⟩ ⟨Nat.zero_le _, Nat.zero_le _⟩ d_Mo_by_298 ?_
          refine jr_wif_ne 306 ok rfl d_Mo_by_301 (by decide) (fun c74 => ?_) (fun c74 => ?_)
          · replace hs := oq_neg c74 hs
            exact jr_lv [1, 2, 0] rfl (B_306 v1 t0 S73 hs)
          · replace hs := oq_pos c74 hs
            refine jr_iconst ok d_Mo_by_304 ?_
            exact jm_zret (Lf := moL D g) ok (by decide +kernel) fin hs d_Mo_by_305
      have B_67 : ∀ (n67 : Nat), ∀ (v1 : Int) (v3 : Int) (v4 : Int) (S : MS), q_Mo_by_67 (q_Mo_by_25 n25) n67 v1 v3 v4 S = some (r, S9) → jw X 0 0 (moL D g S) [(0, .ref (g 0)), (1, .int (ii v1)), (3, .int (ii v3)), (4, .int (ii v4))] 67 [] := by
        intro n67
        induction n67 with
        | zero =>
          intro v1 v3 v4 S hs
          rw [q_Mo_by_67] at hs; cases hs
        | succ n67 ih67 =>
          have B_193 : ∀ (v1 : Int) (v4 : Int) (t0 : Int) (S : MS), q_Mo_by_193 (q_Mo_by_25 n25) (q_Mo_by_67 (q_Mo_by_25 n25) n67) v1 v4 t0 S = some (r, S9) → jw X 0 0 (moL D g S) [(0, .ref (g 0)), (1, .int (ii v1)), (4, .int (ii v4))] 193 [.int (ii t0)] := by
            intro v1 v4 t0 S hs
            rw [q_Mo_by_193] at hs
            refine jr_istore_n [(3, .int (ii t0)), (0, .ref (g 0)), (1, .int (ii v1)), (4, .int (ii v4))] ok d_Mo_by_193 rfl (by rw [hN]; decide) rfl ?_
            refine jr_iinc [(4, .int (ii (v4 + 1))), (3, .int (ii t0)), (0, .ref (g 0)), (1, .int (ii v1))] 3 ok d_Mo_by_194 rfl (by rw [hN]; decide) rfl ?_
            refine jr_goto 67 ok d_Mo_by_197 (by decide) ?_
            exact jr_lv [2, 3, 1, 0] rfl (ih67 v1 t0 (v4 + 1) S hs)
          have B_188 : ∀ (v1 : Int) (v4 : Int) (S : MS), q_Mo_by_188 (q_Mo_by_25 n25) (q_Mo_by_67 (q_Mo_by_25 n25) n67) v1 v4 S = some (r, S9) → jw X 0 0 (moL D g S) [(0, .ref (g 0)), (1, .int (ii v1)), (4, .int (ii v4))] 188 [] := by
            intro v1 v4 S hs
            rw [q_Mo_by_188] at hs
            refine jr_iconst ok d_Mo_by_188 ?_
            refine jr_goto 193 ok d_Mo_by_189 (by decide) ?_
            exact jr_lv [0, 1, 2] rfl (B_193 v1 v4 1 S hs)
          have B_179 : ∀ (v1 : Int) (v3 : Int) (v4 : Int) (v5 : Int) (S : MS), q_Mo_by_179 (q_Mo_by_25 n25) (q_Mo_by_67 (q_Mo_by_25 n25) n67) v1 v3 v4 v5 S = some (r, S9) → jw X 0 0 (moL D g S) [(0, .ref (g 0)), (1, .int (ii v1)), (3, .int (ii v3)), (4, .int (ii v4)), (5, .int (ii v5))] 179 [] := by
            intro v1 v3 v4 v5 S hs
            rw [q_Mo_by_179] at hs
            refine jr_iload_n ok 2 d_Mo_by_179 rfl rfl ?_
            refine jr_wif_ne 188 ok rfl d_Mo_by_180 (by decide) (fun c70 => ?_) (fun c70 => ?_)
            · replace hs := oq_neg c70 hs
              exact jr_lv [0, 1, 3] rfl (B_188 v1 v4 S hs)
            · replace hs := oq_pos c70 hs
              refine jr_iload ok 4 d_Mo_by_183 rfl ?_
              refine jr_wif_eq 192 ok rfl d_Mo_by_185 (by decide) (fun c71 => ?_) (fun c71 => ?_)
              · replace hs := oq_pos c71 hs
                refine jr_iconst ok d_Mo_by_192 ?_
                exact jr_lv [0, 1, 3] rfl (B_193 v1 v4 0 S hs)
              · replace hs := oq_neg c71 hs
                exact jr_lv [0, 1, 3] rfl (B_188 v1 v4 S hs)
          have B_112 : ∀ (n112 : Nat), ∀ (v1 : Int) (v3 : Int) (v4 : Int) (v5 : Int) (v6 : Int) (S : MS), q_Mo_by_112 (q_Mo_by_25 n25) (q_Mo_by_67 (q_Mo_by_25 n25) n67) n112 v1 v3 v4 v5 v6 S = some (r, S9) → jw X 0 0 (moL D g S) [(0, .ref (g 0)), (1, .int (ii v1)), (3, .int (ii v3)), (4, .int (ii v4)), (5, .int (ii v5)), (6, .int (ii v6))] 112 [] := by
            intro n112
            induction n112 with
            | zero =>
              intro v1 v3 v4 v5 v6 S hs
              rw [q_Mo_by_112] at hs; cases hs
            | succ n112 ih112 =>
              have B_171 : ∀ (v1 : Int) (v3 : Int) (v4 : Int) (v6 : Int) (t0 : Int) (S : MS), q_Mo_by_171 (q_Mo_by_25 n25) (q_Mo_by_67 (q_Mo_by_25 n25) n67) (q_Mo_by_112 (q_Mo_by_25 n25) (q_Mo_by_67 (q_Mo_by_25 n25) n67) n112) v1 v3 v4 v6 t0 S = some (r, S9) → jw X 0 0 (moL D g S) [(0, .ref (g 0)), (1, .int (ii v1)), (3, .int (ii v3)), (4, .int (ii v4)), (6, .int (ii v6))] 171 [.int (ii t0)] := by
                intro v1 v3 v4 v6 t0 S hs
                rw [q_Mo_by_171] at hs
                refine jr_istore [(5, .int (ii t0)), (0, .ref (g 0)), (1, .int (ii v1)), (3, .int (ii v3)), (4, .int (ii v4)), (6, .int (ii v6))] ok d_Mo_by_171 (by rw [hN]; decide) rfl ?_
                refine jr_iinc [(6, .int (ii (v6 + 1))), (5, .int (ii t0)), (0, .ref (g 0)), (1, .int (ii v1)), (3, .int (ii v3)), (4, .int (ii v4))] 5 ok d_Mo_by_173 rfl (by rw [hN]; decide) rfl ?_
                refine jr_goto 112 ok d_Mo_by_176 (by decide) ?_
                exact jr_lv [2, 3, 4, 5, 1, 0] rfl (ih112 v1 v3 v4 t0 (v6 + 1) S hs)
              intro v1 v3 v4 v5 v6 S hs
              rw [q_Mo_by_112] at hs
              refine jr_iload ok 5 d_Mo_by_112 rfl ?_
              refine jr_aload_n ok 0 d_Mo_by_114 rfl rfl ?_
              refine jr_get (v := .int (ii S.m_to)) ok 0 f_Mo_192 rfl rfl d_Mo_by_115 ?_
              refine jr_aload_n ok 0 d_Mo_by_118 rfl rfl ?_
              refine jr_get (v := .int (ii S.m_from)) ok 0 f_Mo_195 rfl rfl d_Mo_by_119 ?_
              refine jr_isub ok d_Mo_by_122 ?_
              refine jr_wicmp_ge 179 ok rfl rfl d_Mo_by_123 (by decide) (fun c64 => ?_) (fun c64 => ?_)
              · replace hs := oq_pos c64 hs
                exact jr_lv [0, 1, 2, 3, 4] rfl (B_179 v1 v3 v4 v5 S hs)
              · replace hs := oq_neg c64 hs
                refine jr_iload ok 4 d_Mo_by_126 rfl ?_
                refine jr_wif_eq 179 ok rfl d_Mo_by_128 (by decide) (fun c65 => ?_) (fun c65 => ?_)
                · replace hs := oq_pos c65 hs
                  exact jr_lv [0, 1, 2, 3, 4] rfl (B_179 v1 v3 v4 v5 S hs)
                · replace hs := oq_neg c65 hs
                  refine jr_aload_n ok 0 d_Mo_by_131 rfl rfl ?_
                  refine jr_get (v := .ref (g 1)) ok 0 f_Mo_8 rfl rfl d_Mo_by_132 ?_
                  refine jr_aload_n ok 0 d_Mo_by_135 rfl rfl ?_
                  refine jr_get (v := .ref (g 11)) ok 0 f_Mo_44 rfl rfl d_Mo_by_136 ?_
                  refine jr_bipush ok d_Mo_by_139 (by decide +kernel) ?_
                  refine jr_iload_n ok 1 d_Mo_by_141 rfl rfl ?_
                  refine jr_imul ok d_Mo_by_142 ?_
                  refine jr_iload ok 3 d_Mo_by_143 rfl ?_
                  refine jr_iadd ok d_Mo_by_145 ?_
                  obtain ⟨hb66, hs⟩ := oq_if hs
                  refine jr_iald ok 11 rfl rfl hb66.1 hb66.2 d_Mo_by_146 ?_
                  refine jr_iload ok 5 d_Mo_by_147 rfl ?_
                  refine jr_iadd ok d_Mo_by_149 ?_
                  obtain ⟨hb67, hs⟩ := oq_if hs
                  refine jr_bald ok 1 rfl rfl hb67.1 hb67.2 d_Mo_by_150 ?_
                  refine jr_aload_n ok 0 d_Mo_by_151 rfl rfl ?_
                  refine jr_get (v := .ref (g 1)) ok 0 f_Mo_8 rfl rfl d_Mo_by_152 ?_
                  refine jr_aload_n ok 0 d_Mo_by_155 rfl rfl ?_
                  refine jr_get (v := .int (ii S.m_from)) ok 0 f_Mo_195 rfl rfl d_Mo_by_156 ?_
                  refine jr_iload ok 5 d_Mo_by_159 rfl ?_
                  refine jr_iadd ok d_Mo_by_161 ?_
                  obtain ⟨hb68, hs⟩ := oq_if hs
                  refine jr_bald ok 1 rfl rfl hb68.1 hb68.2 d_Mo_by_162 ?_
                  refine jr_wicmp_ne 170 ok rfl rfl d_Mo_by_163 (by decide) (fun c69 => ?_) (fun c69 => ?_)
                  · replace hs := oq_neg c69 hs
                    refine jr_iconst ok d_Mo_by_170 ?_
                    exact jr_lv [0, 1, 2, 3, 5] rfl (B_171 v1 v3 v4 v6 0 S hs)
                  · replace hs := oq_pos c69 hs
                    refine jr_iconst ok d_Mo_by_166 ?_
                    refine jr_goto 171 ok d_Mo_by_167 (by decide) ?_
                    exact jr_lv [0, 1, 2, 3, 5] rfl (B_171 v1 v3 v4 v6 1 S hs)
          have B_107 : ∀ (v1 : Int) (v3 : Int) (v4 : Int) (t0 : Int) (S : MS), q_Mo_by_107 (q_Mo_by_25 n25) (q_Mo_by_67 (q_Mo_by_25 n25) n67) v1 v3 v4 t0 S = some (r, S9) → jw X 0 0 (moL D g S) [(0, .ref (g 0)), (1, .int (ii v1)), (3, .int (ii v3)), (4, .int (ii v4))] 107 [.int (ii t0)] := by
            intro v1 v3 v4 t0 S hs
            rw [q_Mo_by_107] at hs
            refine jr_istore [(5, .int (ii t0)), (0, .ref (g 0)), (1, .int (ii v1)), (3, .int (ii v3)), (4, .int (ii v4))] ok d_Mo_by_107 (by rw [hN]; decide) rfl ?_
            refine jr_iconst ok d_Mo_by_109 ?_
            refine jr_istore [(6, .int (ii 0)), (5, .int (ii t0)), (0, .ref (g 0)), (1, .int (ii v1)), (3, .int (ii v3)), (4, .int (ii v4))] ok d_Mo_by_110 (by rw [hN]; decide) rfl ?_
            exact jr_lv [2, 3, 4, 5, 1, 0] rfl (B_112 fU v1 v3 v4 t0 0 S hs)
          intro v1 v3 v4 S hs
          rw [q_Mo_by_67] at hs
          refine jr_iload ok 3 d_Mo_by_67 rfl ?_
          refine jr_aload_n ok 0 d_Mo_by_69 rfl rfl ?_
          refine jr_get (v := .ref (g 10)) ok 0 f_Mo_41 rfl rfl d_Mo_by_70 ?_
          refine jr_iload_n ok 1 d_Mo_by_73 rfl rfl ?_
          obtain ⟨hb48, hs⟩ := oq_if hs
          refine jr_iald ok 10 rfl rfl hb48.1 hb48.2 d_Mo_by_74 ?_
          refine jr_wicmp_ge 200 ok rfl rfl d_Mo_by_75 (by decide) (fun c49 => ?_) (fun c49 => ?_)
          · replace hs := oq_pos c49 hs
            refine jr_iload_n ok 2 d_Mo_by_200 rfl rfl ?_
            refine jr_wif_eq 214 ok rfl d_Mo_by_201 (by decide) (fun c50 => ?_) (fun c50 => ?_)
            · replace hs := oq_pos c50 hs
              refine jr_aload_n ok 0 d_Mo_by_214 rfl rfl ?_
              refine jr_get (v := .ref (g 11)) ok 0 f_Mo_44 rfl rfl d_Mo_by_215 ?_
              refine jr_bipush ok d_Mo_by_218 (by decide +kernel) ?_
              refine jr_iload_n ok 1 d_Mo_by_220 rfl rfl ?_
              refine jr_imul ok d_Mo_by_221 ?_
              refine jr_aload_n ok 0 d_Mo_by_222 rfl rfl ?_
              refine jr_get (v := .ref (g 10)) ok 0 f_Mo_41 rfl rfl d_Mo_by_223 ?_
              refine jr_iload_n ok 1 d_Mo_by_226 rfl rfl ?_
              obtain ⟨hb51, hs⟩ := oq_if hs
              refine jr_iald ok 10 rfl rfl hb51.1 hb51.2 d_Mo_by_227 ?_
              refine jr_iadd ok d_Mo_by_228 ?_
              refine jr_aload_n ok 0 d_Mo_by_229 rfl rfl ?_
              refine jr_get (v := .int (ii S.m_from)) ok 0 f_Mo_195 rfl rfl d_Mo_by_230 ?_
              obtain ⟨hb52, hs⟩ := oq_if hs
              refine jr_iast (moL D g (MS.w_m_nameFroms S (aU S.m_nameFroms ((6 * v1) + (S.m_tableNames v1)) S.m_from))) ok 11 rfl rfl hb52.1 hb52.2  rfl d_Mo_by_233 ?_
              refine jr_aload_n ok 0 d_Mo_by_234 rfl rfl ?_
              refine jr_get (v := .ref (g 12)) ok 0 f_Mo_47 rfl rfl d_Mo_by_235 ?_
              refine jr_bipush ok d_Mo_by_238 (by decide +kernel) ?_
              refine jr_iload_n ok 1 d_Mo_by_240 rfl rfl ?_
              refine jr_imul ok d_Mo_by_241 ?_
              refine jr_aload_n ok 0 d_Mo_by_242 rfl rfl ?_
              refine jr_get (v := .ref (g 10)) ok 0 f_Mo_41 rfl rfl d_Mo_by_243 ?_
              refine jr_iload_n ok 1 d_Mo_by_246 rfl rfl ?_
              obtain ⟨hb53, hs⟩ := oq_if hs
              refine jr_iald ok 10 rfl rfl hb53.1 hb53.2 d_Mo_by_247 ?_
              show jw X 0 0 (moL D g (MS.w_m_nameFroms S (aU S.m_nameFroms ((6 * v1) + (S.m_tableNames v1)) S.m_from))) [(0, .ref (g 0)), (1, .int (ii v1)), (3, .int (ii v3)), (4, .int (ii v4))] 248 [.int (ii (S.m_tableNames v1)), .int (ii (6 * v1)), .ref (g 12)]
              refine jr_iadd ok d_Mo_by_248 ?_
              refine jr_aload_n ok 0 d_Mo_by_249 rfl rfl ?_
              refine jr_get (v := .int (ii S.m_to)) ok 0 f_Mo_192 rfl rfl d_Mo_by_250 ?_
              refine jr_aload_n ok 0 d_Mo_by_253 rfl rfl ?_
              refine jr_get (v := .int (ii S.m_from)) ok 0 f_Mo_195 rfl rfl d_Mo_by_254 ?_
              refine jr_isub ok d_Mo_by_257 ?_
              obtain ⟨hb54, hs⟩ := oq_if hs
              refine jr_iast (moL D g (MS.w_m_nameLengths (MS.w_m_nameFroms S (aU S.m_nameFroms ((6 * v1) + (S.m_tableNames v1)) S.m_from)) (aU S.m_nameLengths ((6 * v1) + (S.m_tableNames v1)) (S.m_to - S.m_from)))) ok 12 rfl rfl hb54.1 hb54.2  rfl d_Mo_by_258 ?_
              refine jr_aload_n ok 0 d_Mo_by_259 rfl rfl ?_
              refine jr_get (v := .ref (g 10)) ok 0 f_Mo_41 rfl rfl d_Mo_by_260 ?_
              refine jr_iload_n ok 1 d_Mo_by_263 rfl rfl ?_
              refine jr_dup2 rfl rfl ok d_Mo_by_264 ?_
              obtain ⟨hb55, hs⟩ := oq_if hs
              refine jr_iald ok 10 rfl rfl hb55.1 hb55.2 d_Mo_by_265 ?_
              show jw X 0 0 (moL D g (MS.w_m_nameLengths (MS.w_m_nameFroms S (aU S.m_nameFroms ((6 * v1) + (S.m_tableNames v1)) S.m_from)) (aU S.m_nameLengths ((6 * v1) + (S.m_tableNames v1)) (S.m_to - S.m_from)))) [(0, .ref (g 0)), (1, .int (ii v1)), (3, .int (ii v3)), (4, .int (ii v4))] 266 [.int (ii (S.m_tableNames v1)), .int (ii v1), .ref (g 10)]
              refine jr_iconst ok d_Mo_by_266 ?_
              refine jr_iadd ok d_Mo_by_267 ?_
              obtain ⟨hb56, hs⟩ := oq_if hs
              refine jr_iast (moL D g (MS.w_m_tableNames (MS.w_m_nameLengths (MS.w_m_nameFroms S (aU S.m_nameFroms ((6 * v1) + (S.m_tableNames v1)) S.m_from)) (aU S.m_nameLengths ((6 * v1) + (S.m_tableNames v1)) (S.m_to - S.m_from))) (aU S.m_tableNames v1 ((S.m_tableNames v1) + 1)))) ok 10 rfl rfl hb56.1 hb56.2  rfl d_Mo_by_268 ?_
              refine jr_aload_n ok 0 d_Mo_by_269 rfl rfl ?_
              obtain ⟨r57, S57, hc57, hs⟩ := mb2_some hs
              refine jr_mV1 ok hR m_Mo_223 (c_Mo_next (jx_l X) D g (MS.w_m_tableNames (MS.w_m_nameLengths (MS.w_m_nameFroms S (aU S.m_nameFroms ((6 * v1) + (S.m_tableNames v1)) S.m_from)) (aU S.m_nameLengths ((6 * v1) + (S.m_tableNames v1)) (S.m_to - S.m_from))) (aU S.m_tableNames v1 ((S.m_tableNames v1) + 1)))  r57 S57 hc57) rfl rfl rfl rfl (Nat.le_of_ble_eq_true rfl) ⟨Nat.le_of_ble_eq_true rfl, Nat.le_of_ble_eq_true rfl⟩ ⟨Nat.zero_le _, Nat.zero_le _⟩ d_Mo_by_270 ?_
              refine jr_wif_ne 278 ok rfl d_Mo_by_273 (by decide) (fun c58 => ?_) (fun c58 => ?_)
              · replace hs := oq_neg c58 hs
                refine jr_aload_n ok 0 d_Mo_by_278 rfl rfl ?_
                refine jr_get (v := .int (ii S57.m_kind)) ok 0 f_Mo_201 rfl rfl d_Mo_by_279 ?_
                refine jr_bipush ok d_Mo_by_282 (by decide +kernel) ?_
                refine jr_wicmp_ne 291 ok rfl (show w32 44 = 44 by decide) d_Mo_by_284 (by decide) (fun c59 => ?_) (fun c59 => ?_)
                · replace hs := oq_neg c59 hs
                  refine jr_iconst ok d_Mo_by_291 ?_
                  exact jr_lv [0, 1] rfl (B_292 v1 0 S57 hs)
                · replace hs := oq_pos c59 hs
                  refine jr_iconst ok d_Mo_by_287 ?_
                  refine jr_goto 292 ok d_Mo_by_288 (by decide) ?_
                  exact jr_lv [0, 1] rfl (B_292 v1 1 S57 hs)
              · replace hs := oq_pos c58 hs
                refine jr_iconst ok d_Mo_by_276 ?_
                exact jm_zret (Lf := moL D g) ok (by decide +kernel) fin hs d_Mo_by_277
            · replace hs := oq_neg c50 hs
              refine jr_aload_n ok 0 d_Mo_by_204 rfl rfl ?_
              refine jr_iconst ok d_Mo_by_205 ?_
              refine jr_aload_n ok 0 d_Mo_by_206 rfl rfl ?_
              refine jr_get (v := .int (ii S.m_from)) ok 0 f_Mo_195 rfl rfl d_Mo_by_207 ?_
              obtain ⟨r60, S60, hc60, hs⟩ := mb2_some hs
              refine jr_mV1 ok hR m_Mo_125 (c_Mo_flaw (jx_l X) D g S 4 S.m_from r60 S60 hc60) rfl rfl rfl rfl (Nat.le_of_ble_eq_true rfl) ⟨Nat.le_of_ble_eq_true rfl, Nat.le_of_ble_eq_true rfl⟩ ⟨Nat.zero_le _, Nat.zero_le _⟩ d_Mo_by_210 ?_
              obtain ⟨hb61, hs⟩ := oq_if hs
              exact jm_zret (Lf := moL D g) ok (nz_b hb61) fin hs d_Mo_by_213
          · replace hs := oq_neg c49 hs
            refine jr_aload_n ok 0 d_Mo_by_78 rfl rfl ?_
            refine jr_get (v := .ref (g 12)) ok 0 f_Mo_47 rfl rfl d_Mo_by_79 ?_
            refine jr_bipush ok d_Mo_by_82 (by decide +kernel) ?_
            refine jr_iload_n ok 1 d_Mo_by_84 rfl rfl ?_
            refine jr_imul ok d_Mo_by_85 ?_
            refine jr_iload ok 3 d_Mo_by_86 rfl ?_
            refine jr_iadd ok d_Mo_by_88 ?_
            obtain ⟨hb62, hs⟩ := oq_if hs
            refine jr_iald ok 12 rfl rfl hb62.1 hb62.2 d_Mo_by_89 ?_
            refine jr_aload_n ok 0 d_Mo_by_90 rfl rfl ?_
            refine jr_get (v := .int (ii S.m_to)) ok 0 f_Mo_192 rfl rfl d_Mo_by_91 ?_
            refine jr_aload_n ok 0 d_Mo_by_94 rfl rfl ?_
            refine jr_get (v := .int (ii S.m_from)) ok 0 f_Mo_195 rfl rfl d_Mo_by_95 ?_
            refine jr_isub ok d_Mo_by_98 ?_
            refine jr_wicmp_ne 106 ok rfl rfl d_Mo_by_99 (by decide) (fun c63 => ?_) (fun c63 => ?_)
            · replace hs := oq_neg c63 hs
              refine jr_iconst ok d_Mo_by_106 ?_
              exact jr_lv [0, 1, 2, 3] rfl (B_107 v1 v3 v4 0 S hs)
            · replace hs := oq_pos c63 hs
              refine jr_iconst ok d_Mo_by_102 ?_
              refine jr_goto 107 ok d_Mo_by_103 (by decide) ?_
              exact jr_lv [0, 1, 2, 3] rfl (B_107 v1 v3 v4 1 S hs)
      have B_63 : ∀ (v1 : Int) (t0 : Int) (S : MS), q_Mo_by_63 (q_Mo_by_25 n25) v1 t0 S = some (r, S9) → jw X 0 0 (moL D g S) [(0, .ref (g 0)), (1, .int (ii v1))] 63 [.int (ii t0)] := by
        intro v1 t0 S hs
        rw [q_Mo_by_63] at hs
        refine jr_istore_n [(3, .int (ii t0)), (0, .ref (g 0)), (1, .int (ii v1))] ok d_Mo_by_63 rfl (by rw [hN]; decide) rfl ?_
        refine jr_iconst ok d_Mo_by_64 ?_
        refine jr_istore [(4, .int (ii 0)), (3, .int (ii t0)), (0, .ref (g 0)), (1, .int (ii v1))] ok d_Mo_by_65 (by rw [hN]; decide) rfl ?_
        exact jr_lv [2, 3, 1, 0] rfl (B_67 fU v1 t0 0 S hs)
      intro v1 v2 S hs
      rw [q_Mo_by_25] at hs
      refine jr_iload_n ok 2 d_Mo_by_25 rfl rfl ?_
      refine jr_wif_eq 309 ok rfl d_Mo_by_26 (by decide) (fun c40 => ?_) (fun c40 => ?_)
      · replace hs := oq_pos c40 hs
        refine jr_aload_n ok 0 d_Mo_by_309 rfl rfl ?_
        refine jr_bipush ok d_Mo_by_310 (by decide +kernel) ?_
        obtain ⟨r41, S41, hc41, hs⟩ := mb2_some hs
        refine jr_mV1 ok hR m_Mo_313 (c_Mo_need (jx_l X) D g S 41 r41 S41 hc41) rfl rfl rfl rfl (Nat.le_of_ble_eq_true rfl) ⟨Nat.le_of_ble_eq_true rfl, Nat.le_of_ble_eq_true rfl⟩ ⟨Nat.zero_le _, Nat.zero_le _⟩ d_Mo_by_312 ?_
        obtain ⟨hb42, hs⟩ := oq_if hs
        exact jm_zret (Lf := moL D g) ok (nz_b hb42) fin hs d_Mo_by_315
      · replace hs := oq_neg c40 hs
        refine jr_aload_n ok 0 d_Mo_by_29 rfl rfl ?_
        refine jr_get (v := .int (ii S.m_kind)) ok 0 f_Mo_201 rfl rfl d_Mo_by_30 ?_
        refine jr_iconst ok d_Mo_by_33 ?_
        refine jr_wicmp_eq 47 ok rfl (show w32 2 = 2 by decide) d_Mo_by_34 (by decide) (fun c43 => ?_) (fun c43 => ?_)
        · replace hs := oq_pos c43 hs
          refine jr_aload_n ok 0 d_Mo_by_47 rfl rfl ?_
          refine jr_get (v := .ref (g 10)) ok 0 f_Mo_41 rfl rfl d_Mo_by_48 ?_
          refine jr_iload_n ok 1 d_Mo_by_51 rfl rfl ?_
          obtain ⟨hb44, hs⟩ := oq_if hs
          refine jr_iald ok 10 rfl rfl hb44.1 hb44.2 d_Mo_by_52 ?_
          refine jr_bipush ok d_Mo_by_53 (by decide +kernel) ?_
          refine jr_wicmp_ne 62 ok rfl (show w32 6 = 6 by decide) d_Mo_by_55 (by decide) (fun c45 => ?_) (fun c45 => ?_)
          · replace hs := oq_neg c45 hs
            refine jr_iconst ok d_Mo_by_62 ?_
            exact jr_lv [0, 1] rfl (B_63 v1 0 S hs)
          · replace hs := oq_pos c45 hs
            refine jr_iconst ok d_Mo_by_58 ?_
            refine jr_goto 63 ok d_Mo_by_59 (by decide) ?_
            exact jr_lv [0, 1] rfl (B_63 v1 1 S hs)
        · replace hs := oq_neg c43 hs
          refine jr_aload_n ok 0 d_Mo_by_37 rfl rfl ?_
          refine jr_iconst ok d_Mo_by_38 ?_
          refine jr_aload_n ok 0 d_Mo_by_39 rfl rfl ?_
          refine jr_get (v := .int (ii S.m_from)) ok 0 f_Mo_195 rfl rfl d_Mo_by_40 ?_
          obtain ⟨r46, S46, hc46, hs⟩ := mb2_some hs
          refine jr_mV1 ok hR m_Mo_125 (c_Mo_flaw (jx_l X) D g S 2 S.m_from r46 S46 hc46) rfl rfl rfl rfl (Nat.le_of_ble_eq_true rfl) ⟨Nat.le_of_ble_eq_true rfl, Nat.le_of_ble_eq_true rfl⟩ ⟨Nat.zero_le _, Nat.zero_le _⟩ d_Mo_by_43 ?_
          obtain ⟨hb47, hs⟩ := oq_if hs
          exact jm_zret (Lf := moL D g) ok (nz_b hb47) fin hs d_Mo_by_46
  show jw X 0 0 (moL D g S) [(0, .ref (g 0))] 0 []
  rw [s_Mo_by] at hs
  refine jr_aload_n ok 0 d_Mo_by_0 rfl rfl ?_
  refine jr_get (v := .int (ii S.m_pile)) ok 0 f_Mo_253 rfl rfl d_Mo_by_1 ?_
  refine jr_istore_n [(1, .int (ii S.m_pile)), (0, .ref (g 0))] ok d_Mo_by_4 rfl (by rw [hN]; decide) rfl ?_
  refine jr_aload_n ok 1 d_Mo_by_5 rfl rfl ?_
  obtain ⟨r75, S75, hc75, hs⟩ := mb2_some hs
  refine jr_mV1 ok hR m_Mo_223 (c_Mo_next (jx_l X) D g S  r75 S75 hc75) rfl rfl rfl rfl (Nat.le_of_ble_eq_true rfl) ⟨Nat.le_of_ble_eq_true rfl, Nat.le_of_ble_eq_true rfl⟩ ⟨Nat.zero_le _, Nat.zero_le _⟩ d_Mo_by_6 ?_
  refine jr_wif_eq 21 ok rfl d_Mo_by_9 (by decide) (fun c76 => ?_) (fun c76 => ?_)
  · replace hs := oq_pos c76 hs
    refine jr_iconst ok d_Mo_by_21 ?_
    exact jm_zret (Lf := moL D g) ok (by decide +kernel) fin hs d_Mo_by_22
  · replace hs := oq_neg c76 hs
    refine jr_aload_n ok 1 d_Mo_by_12 rfl rfl ?_
    refine jr_bipush ok d_Mo_by_13 (by decide +kernel) ?_
    obtain ⟨r77, S77, hc77, hs⟩ := mb2_some hs
    refine jr_mV1 ok hR m_Mo_313 (c_Mo_need (jx_l X) D g S75 40 r77 S77 hc77) rfl rfl rfl rfl (Nat.le_of_ble_eq_true rfl) ⟨Nat.le_of_ble_eq_true rfl, Nat.le_of_ble_eq_true rfl⟩ ⟨Nat.zero_le _, Nat.zero_le _⟩ d_Mo_by_15 ?_
    refine jr_wif_ne 23 ok rfl d_Mo_by_18 (by decide) (fun c78 => ?_) (fun c78 => ?_)
    · replace hs := oq_neg c78 hs
      refine jr_iconst ok d_Mo_by_23 ?_
      refine jr_istore_n [(2, .int (ii 1)), (1, .int (ii S.m_pile)), (0, .ref (g 0))] ok d_Mo_by_24 rfl (by rw [hN]; decide) rfl ?_
      exact jr_lv [2, 1, 0] rfl (B_25 fU S.m_pile 1 S77 hs)
    · replace hs := oq_pos c78 hs
      refine jr_iconst ok d_Mo_by_21 ?_
      exact jm_zret (Lf := moL D g) ok (by decide +kernel) fin hs d_Mo_by_22

def q_Mo_done_36 (v1 : Int) (t0 : Int) (t1 : Int) (S : MS) : Option (Int × MS) := if w32 S.m_works = 0 then some (1, MS.w_m_open S (t1 - t0)) else if w32 v1 = 109 then mb2 (s_Mo_negate (MS.w_m_open S (t1 - t0)) ) (fun r14 S14 => some (1, S14)) else if (0 : Int) ≤ S.m_signCount ∧ S.m_signCount < (32 : Int) then mb2 (s_Mo_operate (MS.w_m_open S (t1 - t0)) v1 (S.m_signPlaces S.m_signCount)) (fun r12 S12 => if r12 = 0 ∨ r12 = 1 then some (r12, S12) else none) else none

def s_Mo_done (S : MS)  : Option (Int × MS) := if (0 : Int) ≤ (S.m_signCount - 1) ∧ (S.m_signCount - 1) < (32 : Int) then if w32 (S.m_signs (S.m_signCount - 1)) = 109 then q_Mo_done_36 (S.m_signs (S.m_signCount - 1)) 1 S.m_open (MS.w_m_signCount S (S.m_signCount - 1)) else q_Mo_done_36 (S.m_signs (S.m_signCount - 1)) 0 S.m_open (MS.w_m_signCount S (S.m_signCount - 1)) else none
set_option maxHeartbeats 4000000 in
set_option maxRecDepth 100000 in
theorem c_Mo_done (l : Launch) (D : jd_T) (g : Nat → Nat) (S : MS)  (r : Int) (S9 : MS) (hs : s_Mo_done S  = some (r, S9)) : jc_C l D y_Mo_done b_Mo_done 2 (some .boolean) { frames := 4, cells := 0, slots := 0, locals := 111 } [.ref (g 0)] (moL D g S) (fun _ : Unit => (.returned (some (.int (ii r))), True, (moL D g S9))) := by
  refine jc_of rfl (Nat.le_of_ble_eq_true rfl) ?_
  intro X hl hR hN ok hnm fin
  subst hl
  have B_36 : ∀ (v1 : Int) (t0 : Int) (t1 : Int) (S : MS), q_Mo_done_36 v1 t0 t1 S = some (r, S9) → jw X 0 0 (moL D g S) [(0, .ref (g 0)), (1, .int (ii v1))] 36 [.int (ii t0), .int (ii t1), .ref (g 0)] := by
    intro v1 t0 t1 S hs
    rw [q_Mo_done_36] at hs
    refine jr_isub ok d_Mo_done_36 ?_
    refine jr_put (moL D g (MS.w_m_open S (t1 - t0))) ok 0 f_Mo_291 rfl rfl rfl (Nat.le_of_ble_eq_true rfl) rfl d_Mo_done_37 ?_
    refine jr_aload_n ok 0 d_Mo_done_40 rfl rfl ?_
    refine jr_get (v := .int (ii S.m_works)) ok 0 f_Mo_297 rfl rfl d_Mo_done_41 ?_
    refine jr_wif_ne 49 ok rfl d_Mo_done_44 (by decide) (fun c9 => ?_) (fun c9 => ?_)
    · replace hs := oq_neg c9 hs
      refine jr_iload_n ok 1 d_Mo_done_49 rfl rfl ?_
      refine jr_bipush ok d_Mo_done_50 (by decide +kernel) ?_
      refine jr_wicmp_ne 61 ok rfl (show w32 109 = 109 by decide) d_Mo_done_52 (by decide) (fun c10 => ?_) (fun c10 => ?_)
      · replace hs := oq_neg c10 hs
        refine jr_aload_n ok 0 d_Mo_done_61 rfl rfl ?_
        refine jr_iload_n ok 1 d_Mo_done_62 rfl rfl ?_
        refine jr_aload_n ok 0 d_Mo_done_63 rfl rfl ?_
        refine jr_get (v := .ref (g 24)) ok 0 f_Mo_85 rfl rfl d_Mo_done_64 ?_
        refine jr_aload_n ok 0 d_Mo_done_67 rfl rfl ?_
        refine jr_get (v := .int (ii S.m_signCount)) ok 0 f_Mo_294 rfl rfl d_Mo_done_68 ?_
        obtain ⟨hb11, hs⟩ := oq_if hs
        refine jr_iald ok 24 rfl rfl hb11.1 hb11.2 d_Mo_done_71 ?_
        show jw X 0 0 (moL D g (MS.w_m_open S (t1 - t0))) [(0, .ref (g 0)), (1, .int (ii v1))] 72 [.int (ii (S.m_signPlaces S.m_signCount)), .int (ii v1), .ref (g 0)]
        obtain ⟨r12, S12, hc12, hs⟩ := mb2_some hs
        refine jr_mV1 ok hR m_Mo_304 (c_Mo_operate (jx_l X) D g (MS.w_m_open S (t1 - t0)) v1 (S.m_signPlaces S.m_signCount) r12 S12 hc12) rfl rfl rfl rfl (Nat.le_of_ble_eq_true rfl) ⟨Nat.le_of_ble_eq_true rfl, Nat.le_of_ble_eq_true rfl⟩ ⟨Nat.zero_le _, Nat.zero_le _⟩ d_Mo_done_72 ?_
        obtain ⟨hb13, hs⟩ := oq_if hs
        exact jm_zret (Lf := moL D g) ok (nz_b hb13) fin hs d_Mo_done_75
      · replace hs := oq_pos c10 hs
        refine jr_aload_n ok 0 d_Mo_done_55 rfl rfl ?_
        obtain ⟨r14, S14, hc14, hs⟩ := mb2_some hs
        refine jr_mV0 ok hR m_Mo_301 (c_Mo_negate (jx_l X) D g (MS.w_m_open S (t1 - t0))  r14 S14 hc14) rfl rfl rfl rfl (Nat.le_of_ble_eq_true rfl) ⟨Nat.le_of_ble_eq_true rfl, Nat.le_of_ble_eq_true rfl⟩ ⟨Nat.zero_le _, Nat.zero_le _⟩ d_Mo_done_56 ?_
        refine jr_iconst ok d_Mo_done_59 ?_
        exact jm_zret (Lf := moL D g) ok (by decide +kernel) fin hs d_Mo_done_60
    · replace hs := oq_pos c9 hs
      refine jr_iconst ok d_Mo_done_47 ?_
      exact jm_zret (Lf := moL D g) ok (by decide +kernel) fin hs d_Mo_done_48
  show jw X 0 0 (moL D g S) [(0, .ref (g 0))] 0 []
  rw [s_Mo_done] at hs
  refine jr_aload_n ok 0 d_Mo_done_0 rfl rfl ?_
  refine jr_dup rfl ok d_Mo_done_1 ?_
  refine jr_get (v := .int (ii S.m_signCount)) ok 0 f_Mo_294 rfl rfl d_Mo_done_2 ?_
  refine jr_iconst ok d_Mo_done_5 ?_
  refine jr_isub ok d_Mo_done_6 ?_
  refine jr_put (moL D g (MS.w_m_signCount S (S.m_signCount - 1))) ok 0 f_Mo_294 rfl rfl rfl (Nat.le_of_ble_eq_true rfl) rfl d_Mo_done_7 ?_
  refine jr_aload_n ok 0 d_Mo_done_10 rfl rfl ?_
  refine jr_get (v := .ref (g 23)) ok 0 f_Mo_82 rfl rfl d_Mo_done_11 ?_
  refine jr_aload_n ok 0 d_Mo_done_14 rfl rfl ?_
  refine jr_get (v := .int (ii (S.m_signCount - 1))) ok 0 f_Mo_294 rfl rfl d_Mo_done_15 ?_
  obtain ⟨hb15, hs⟩ := oq_if hs
  refine jr_iald ok 23 rfl rfl hb15.1 hb15.2 d_Mo_done_18 ?_
  show jw X 0 0 (moL D g (MS.w_m_signCount S (S.m_signCount - 1))) [(0, .ref (g 0))] 19 [.int (ii (S.m_signs (S.m_signCount - 1)))]
  refine jr_istore_n [(1, .int (ii (S.m_signs (S.m_signCount - 1)))), (0, .ref (g 0))] ok d_Mo_done_19 rfl (by rw [hN]; decide) rfl ?_
  refine jr_aload_n ok 1 d_Mo_done_20 rfl rfl ?_
  refine jr_dup rfl ok d_Mo_done_21 ?_
  refine jr_get (v := .int (ii S.m_open)) ok 0 f_Mo_291 rfl rfl d_Mo_done_22 ?_
  refine jr_iload_n ok 0 d_Mo_done_25 rfl rfl ?_
  refine jr_bipush ok d_Mo_done_26 (by decide +kernel) ?_
  refine jr_wicmp_ne 35 ok rfl (show w32 109 = 109 by decide) d_Mo_done_28 (by decide) (fun c16 => ?_) (fun c16 => ?_)
  · replace hs := oq_neg c16 hs
    refine jr_iconst ok d_Mo_done_35 ?_
    exact jr_lv [1, 0] rfl (B_36 (S.m_signs (S.m_signCount - 1)) 0 S.m_open (MS.w_m_signCount S (S.m_signCount - 1)) hs)
  · replace hs := oq_pos c16 hs
    refine jr_iconst ok d_Mo_done_31 ?_
    refine jr_goto 36 ok d_Mo_done_32 (by decide) ?_
    exact jr_lv [1, 0] rfl (B_36 (S.m_signs (S.m_signCount - 1)) 1 S.m_open (MS.w_m_signCount S (S.m_signCount - 1)) hs)

def q_Mo_match_39  (S : MS) : Option (Int × MS) := mb2 (s_Mo_next S ) (fun r11 S11 => if w32 r11 = 0 then some (0, S11) else mb2 (s_Mo_need S11 3) (fun r13 S13 => if w32 r13 = 0 then some (0, S13) else some (1, S13)))

def s_Mo_match (S : MS)  : Option (Int × MS) := mb2 (s_Mo_need S 2) (fun r15 S15 => if w32 r15 = 0 then some (0, S15) else if w32 S15.m_kind = 61 then q_Mo_match_39 S15 else if 256 ≤ w32 S15.m_kind then q_Mo_match_39 S15 else mb2 (s_Mo_flaw S15 2 S15.m_from) (fun r19 S19 => if r19 = 0 ∨ r19 = 1 then some (r19, S19) else none))
set_option maxHeartbeats 4000000 in
set_option maxRecDepth 100000 in
theorem c_Mo_match (l : Launch) (D : jd_T) (g : Nat → Nat) (S : MS)  (r : Int) (S9 : MS) (hs : s_Mo_match S  = some (r, S9)) : jc_C l D y_Mo_match b_Mo_match 1 (some .boolean) { frames := 4, cells := 0, slots := 0, locals := 88 } [.ref (g 0)] (moL D g S) (fun _ : Unit => (.returned (some (.int (ii r))), True, (moL D g S9))) := by
  refine jc_of rfl (Nat.le_of_ble_eq_true rfl) ?_
  intro X hl hR hN ok hnm fin
  subst hl
  have B_39 : ∀ (S : MS), q_Mo_match_39 S = some (r, S9) → jw X 0 0 (moL D g S) [(0, .ref (g 0))] 39 [] := by
    intro S hs
    rw [q_Mo_match_39] at hs
    refine jr_aload_n ok 0 d_Mo_match_39 rfl rfl ?_
    obtain ⟨r11, S11, hc11, hs⟩ := mb2_some hs
    refine jr_mV1 ok hR m_Mo_223 (c_Mo_next (jx_l X) D g S  r11 S11 hc11) rfl rfl rfl rfl (Nat.le_of_ble_eq_true rfl) ⟨Nat.le_of_ble_eq_true rfl, Nat.le_of_ble_eq_true rfl⟩ ⟨Nat.zero_le _, Nat.zero_le _⟩ d_Mo_match_40 ?_
    refine jr_wif_eq 58 ok rfl d_Mo_match_43 (by decide) (fun c12 => ?_) (fun c12 => ?_)
    · replace hs := oq_pos c12 hs
      refine jr_iconst ok d_Mo_match_58 ?_
      exact jm_zret (Lf := moL D g) ok (by decide +kernel) fin hs d_Mo_match_59
    · replace hs := oq_neg c12 hs
      refine jr_aload_n ok 0 d_Mo_match_46 rfl rfl ?_
      refine jr_iconst ok d_Mo_match_47 ?_
      obtain ⟨r13, S13, hc13, hs⟩ := mb2_some hs
      refine jr_mV1 ok hR m_Mo_313 (c_Mo_need (jx_l X) D g S11 3 r13 S13 hc13) rfl rfl rfl rfl (Nat.le_of_ble_eq_true rfl) ⟨Nat.le_of_ble_eq_true rfl, Nat.le_of_ble_eq_true rfl⟩ ⟨Nat.zero_le _, Nat.zero_le _⟩ d_Mo_match_48 ?_
      refine jr_wif_eq 58 ok rfl d_Mo_match_51 (by decide) (fun c14 => ?_) (fun c14 => ?_)
      · replace hs := oq_pos c14 hs
        refine jr_iconst ok d_Mo_match_58 ?_
        exact jm_zret (Lf := moL D g) ok (by decide +kernel) fin hs d_Mo_match_59
      · replace hs := oq_neg c14 hs
        refine jr_iconst ok d_Mo_match_54 ?_
        refine jr_goto 59 ok d_Mo_match_55 (by decide) ?_
        exact jm_zret (Lf := moL D g) ok (by decide +kernel) fin hs d_Mo_match_59
  show jw X 0 0 (moL D g S) [(0, .ref (g 0))] 0 []
  rw [s_Mo_match] at hs
  refine jr_aload_n ok 0 d_Mo_match_0 rfl rfl ?_
  refine jr_iconst ok d_Mo_match_1 ?_
  obtain ⟨r15, S15, hc15, hs⟩ := mb2_some hs
  refine jr_mV1 ok hR m_Mo_313 (c_Mo_need (jx_l X) D g S 2 r15 S15 hc15) rfl rfl rfl rfl (Nat.le_of_ble_eq_true rfl) ⟨Nat.le_of_ble_eq_true rfl, Nat.le_of_ble_eq_true rfl⟩ ⟨Nat.zero_le _, Nat.zero_le _⟩ d_Mo_match_2 ?_
  refine jr_wif_ne 10 ok rfl d_Mo_match_5 (by decide) (fun c16 => ?_) (fun c16 => ?_)
  · replace hs := oq_neg c16 hs
    refine jr_aload_n ok 0 d_Mo_match_10 rfl rfl ?_
    refine jr_get (v := .int (ii S15.m_kind)) ok 0 f_Mo_201 rfl rfl d_Mo_match_11 ?_
    refine jr_bipush ok d_Mo_match_14 (by decide +kernel) ?_
    refine jr_wicmp_eq 39 ok rfl (show w32 61 = 61 by decide) d_Mo_match_16 (by decide) (fun c17 => ?_) (fun c17 => ?_)
    · replace hs := oq_pos c17 hs
      exact jr_lv [0] rfl (B_39 S15 hs)
    · replace hs := oq_neg c17 hs
      refine jr_aload_n ok 0 d_Mo_match_19 rfl rfl ?_
      refine jr_get (v := .int (ii S15.m_kind)) ok 0 f_Mo_201 rfl rfl d_Mo_match_20 ?_
      refine jr_sipush ok d_Mo_match_23 (by decide +kernel) ?_
      refine jr_wicmp_ge 39 ok rfl (show w32 256 = 256 by decide) d_Mo_match_26 (by decide) (fun c18 => ?_) (fun c18 => ?_)
      · replace hs := oq_pos c18 hs
        exact jr_lv [0] rfl (B_39 S15 hs)
      · replace hs := oq_neg c18 hs
        refine jr_aload_n ok 0 d_Mo_match_29 rfl rfl ?_
        refine jr_iconst ok d_Mo_match_30 ?_
        refine jr_aload_n ok 0 d_Mo_match_31 rfl rfl ?_
        refine jr_get (v := .int (ii S15.m_from)) ok 0 f_Mo_195 rfl rfl d_Mo_match_32 ?_
        obtain ⟨r19, S19, hc19, hs⟩ := mb2_some hs
        refine jr_mV1 ok hR m_Mo_125 (c_Mo_flaw (jx_l X) D g S15 2 S15.m_from r19 S19 hc19) rfl rfl rfl rfl (Nat.le_of_ble_eq_true rfl) ⟨Nat.le_of_ble_eq_true rfl, Nat.le_of_ble_eq_true rfl⟩ ⟨Nat.zero_le _, Nat.zero_le _⟩ d_Mo_match_35 ?_
        obtain ⟨hb20, hs⟩ := oq_if hs
        exact jm_zret (Lf := moL D g) ok (nz_b hb20) fin hs d_Mo_match_38
  · replace hs := oq_pos c16 hs
    refine jr_iconst ok d_Mo_match_8 ?_
    exact jm_zret (Lf := moL D g) ok (by decide +kernel) fin hs d_Mo_match_9

def q_Mo_called_166  (S : MS) : Option (Int × MS) := mb2 (s_Mo_next S ) (fun r48 S48 => if r48 = 0 ∨ r48 = 1 then some (r48, S48) else none)

def q_Mo_called_109 (k82 : Int → Int → Int → MS → Option (Int × MS)) (v1 : Int) (v2 : Int) (t0 : Int) (S : MS) : Option (Int × MS) := if w32 t0 = 0 then k82 v1 v2 t0 S else mb2 (s_Mo_next S ) (fun r46 S46 => if w32 r46 = 0 then some (0, S46) else k82 v1 v2 t0 S46)

def q_Mo_called_82 : Nat → Int → Int → Int → MS → Option (Int × MS)
  | 0, _, _, _, _ => none
  | n + 1, v1, v2, v3, S => if w32 v3 = 0 then mb2 (s_Mo_need S 125) (fun r35 S35 => if w32 r35 = 0 then some (0, S35) else if w32 S35.m_kind = 41 then if w32 S35.m_works = 0 then q_Mo_called_166 S35 else mb2 (s_Mo_reckon S35 v1 v2) (fun r39 S39 => q_Mo_called_166 S39) else mb2 (s_Mo_flaw S35 2 S35.m_from) (fun r40 S40 => if r40 = 0 ∨ r40 = 1 then some (r40, S40) else none)) else mb2 (s_Mo_match S ) (fun r42 S42 => if w32 r42 = 0 then some (0, S42) else if w32 S42.m_kind = 44 then q_Mo_called_109 (q_Mo_called_82 n) v1 v2 1 S42 else q_Mo_called_109 (q_Mo_called_82 n) v1 v2 0 S42)

def q_Mo_called_81 (v1 : Int) (v2 : Int) (t0 : Int) (S : MS) : Option (Int × MS) := q_Mo_called_82 fU v1 v2 t0 S

def q_Mo_called_40 (v1 : Int) (S : MS) : Option (Int × MS) := mb2 (s_Mo_need S 40) (fun r29 S29 => if w32 r29 = 0 then some (0, S29) else mb2 (s_Mo_need S29 123) (fun r31 S31 => if w32 r31 = 0 then some (0, S31) else if w32 S31.m_kind = 125 then q_Mo_called_81 v1 S29.m_to 0 S31 else q_Mo_called_81 v1 S29.m_to 1 S31))

def s_Mo_called (S : MS) (v1 : Int) : Option (Int × MS) := if (0 : Int) ≤ S.m_pile ∧ S.m_pile < (20 : Int) then mb2 (s_Mo_next (MS.w_m_tableNames S (aU S.m_tableNames S.m_pile 0)) ) (fun r51 S51 => if w32 r51 = 0 then some (0, S51) else mb2 (s_Mo_isName S51 98 121 32 32 2) (fun r53 S53 => if w32 r53 = 0 then q_Mo_called_40 v1 S53 else mb2 (s_Mo_by S53 ) (fun r55 S55 => if w32 r55 = 0 then some (0, S55) else q_Mo_called_40 v1 S55))) else none
set_option maxHeartbeats 4000000 in
set_option maxRecDepth 100000 in
theorem c_Mo_called (l : Launch) (D : jd_T) (g : Nat → Nat) (S : MS) (v1 : Int) (r : Int) (S9 : MS) (hs : s_Mo_called S v1 = some (r, S9)) : jc_C l D y_Mo_called b_Mo_called 4 (some .boolean) { frames := 5, cells := 0, slots := 0, locals := 114 } [.ref (g 0), .int (ii v1)] (moL D g S) (fun _ : Unit => (.returned (some (.int (ii r))), True, (moL D g S9))) := by
  refine jc_of rfl (Nat.le_of_ble_eq_true rfl) ?_
  intro X hl hR hN ok hnm fin
  subst hl
  have B_166 : ∀ (S : MS), q_Mo_called_166 S = some (r, S9) → jw X 0 0 (moL D g S) [(0, .ref (g 0))] 166 [] := by
    intro S hs
    rw [q_Mo_called_166] at hs
    refine jr_aload_n ok 0 d_Mo_called_166 rfl rfl ?_
    obtain ⟨r48, S48, hc48, hs⟩ := mb2_some hs
    refine jr_mV1 ok hR m_Mo_223 (c_Mo_next (jx_l X) D g S  r48 S48 hc48) rfl rfl rfl rfl (Nat.le_of_ble_eq_true rfl) ⟨Nat.le_of_ble_eq_true rfl, Nat.le_of_ble_eq_true rfl⟩ ⟨Nat.zero_le _, Nat.zero_le _⟩ d_Mo_called_167 ?_
    obtain ⟨hb49, hs⟩ := oq_if hs
    exact jm_zret (Lf := moL D g) ok (nz_b hb49) fin hs d_Mo_called_170
  have B_82 : ∀ (n82 : Nat), ∀ (v1 : Int) (v2 : Int) (v3 : Int) (S : MS), q_Mo_called_82 n82 v1 v2 v3 S = some (r, S9) → jw X 0 0 (moL D g S) [(0, .ref (g 0)), (1, .int (ii v1)), (2, .int (ii v2)), (3, .int (ii v3))] 82 [] := by
    intro n82
    induction n82 with
    | zero =>
      intro v1 v2 v3 S hs
      rw [q_Mo_called_82] at hs; cases hs
    | succ n82 ih82 =>
      have B_109 : ∀ (v1 : Int) (v2 : Int) (t0 : Int) (S : MS), q_Mo_called_109 (q_Mo_called_82 n82) v1 v2 t0 S = some (r, S9) → jw X 0 0 (moL D g S) [(0, .ref (g 0)), (1, .int (ii v1)), (2, .int (ii v2))] 109 [.int (ii t0)] := by
        intro v1 v2 t0 S hs
        rw [q_Mo_called_109] at hs
        refine jr_istore_n [(3, .int (ii t0)), (0, .ref (g 0)), (1, .int (ii v1)), (2, .int (ii v2))] ok d_Mo_called_109 rfl (by rw [hN]; decide) rfl ?_
        refine jr_iload_n ok 0 d_Mo_called_110 rfl rfl ?_
        refine jr_wif_eq 82 ok rfl d_Mo_called_111 (by decide) (fun c45 => ?_) (fun c45 => ?_)
        · replace hs := oq_pos c45 hs
          exact jr_lv [1, 2, 3, 0] rfl (ih82 v1 v2 t0 S hs)
        · replace hs := oq_neg c45 hs
          refine jr_aload_n ok 1 d_Mo_called_114 rfl rfl ?_
          obtain ⟨r46, S46, hc46, hs⟩ := mb2_some hs
          refine jr_mV1 ok hR m_Mo_223 (c_Mo_next (jx_l X) D g S  r46 S46 hc46) rfl rfl rfl rfl (Nat.le_of_ble_eq_true rfl) ⟨Nat.le_of_ble_eq_true rfl, Nat.le_of_ble_eq_true rfl⟩ ⟨Nat.zero_le _, Nat.zero_le _⟩ d_Mo_called_115 ?_
          refine jr_wif_ne 82 ok rfl d_Mo_called_118 (by decide) (fun c47 => ?_) (fun c47 => ?_)
          · replace hs := oq_neg c47 hs
            exact jr_lv [1, 2, 3, 0] rfl (ih82 v1 v2 t0 S46 hs)
          · replace hs := oq_pos c47 hs
            refine jr_iconst ok d_Mo_called_121 ?_
            exact jm_zret (Lf := moL D g) ok (by decide +kernel) fin hs d_Mo_called_122
      intro v1 v2 v3 S hs
      rw [q_Mo_called_82] at hs
      refine jr_iload_n ok 3 d_Mo_called_82 rfl rfl ?_
      refine jr_wif_eq 123 ok rfl d_Mo_called_83 (by decide) (fun c34 => ?_) (fun c34 => ?_)
      · replace hs := oq_pos c34 hs
        refine jr_aload_n ok 0 d_Mo_called_123 rfl rfl ?_
        refine jr_bipush ok d_Mo_called_124 (by decide +kernel) ?_
        obtain ⟨r35, S35, hc35, hs⟩ := mb2_some hs
        refine jr_mV1 ok hR m_Mo_313 (c_Mo_need (jx_l X) D g S 125 r35 S35 hc35) rfl rfl rfl rfl (Nat.le_of_ble_eq_true rfl) ⟨Nat.le_of_ble_eq_true rfl, Nat.le_of_ble_eq_true rfl⟩ ⟨Nat.zero_le _, Nat.zero_le _⟩ d_Mo_called_126 ?_
        refine jr_wif_ne 134 ok rfl d_Mo_called_129 (by decide) (fun c36 => ?_) (fun c36 => ?_)
        · replace hs := oq_neg c36 hs
          refine jr_aload_n ok 0 d_Mo_called_134 rfl rfl ?_
          refine jr_get (v := .int (ii S35.m_kind)) ok 0 f_Mo_201 rfl rfl d_Mo_called_135 ?_
          refine jr_bipush ok d_Mo_called_138 (by decide +kernel) ?_
          refine jr_wicmp_eq 153 ok rfl (show w32 41 = 41 by decide) d_Mo_called_140 (by decide) (fun c37 => ?_) (fun c37 => ?_)
          · replace hs := oq_pos c37 hs
            refine jr_aload_n ok 0 d_Mo_called_153 rfl rfl ?_
            refine jr_get (v := .int (ii S35.m_works)) ok 0 f_Mo_297 rfl rfl d_Mo_called_154 ?_
            refine jr_wif_eq 166 ok rfl d_Mo_called_157 (by decide) (fun c38 => ?_) (fun c38 => ?_)
            · replace hs := oq_pos c38 hs
              exact jr_lv [0] rfl (B_166 S35 hs)
            · replace hs := oq_neg c38 hs
              refine jr_aload_n ok 0 d_Mo_called_160 rfl rfl ?_
              refine jr_iload_n ok 1 d_Mo_called_161 rfl rfl ?_
              refine jr_iload_n ok 2 d_Mo_called_162 rfl rfl ?_
              obtain ⟨r39, S39, hc39, hs⟩ := mb2_some hs
              refine jr_mV0 ok hR m_Mo_322 (c_Mo_reckon (jx_l X) D g S35 v1 v2 r39 S39 hc39) rfl rfl rfl rfl (Nat.le_of_ble_eq_true rfl) ⟨Nat.le_of_ble_eq_true rfl, Nat.le_of_ble_eq_true rfl⟩ ⟨Nat.zero_le _, Nat.zero_le _⟩ d_Mo_called_163 ?_
              exact jr_lv [0] rfl (B_166 S39 hs)
          · replace hs := oq_neg c37 hs
            refine jr_aload_n ok 0 d_Mo_called_143 rfl rfl ?_
            refine jr_iconst ok d_Mo_called_144 ?_
            refine jr_aload_n ok 0 d_Mo_called_145 rfl rfl ?_
            refine jr_get (v := .int (ii S35.m_from)) ok 0 f_Mo_195 rfl rfl d_Mo_called_146 ?_
            obtain ⟨r40, S40, hc40, hs⟩ := mb2_some hs
            refine jr_mV1 ok hR m_Mo_125 (c_Mo_flaw (jx_l X) D g S35 2 S35.m_from r40 S40 hc40) rfl rfl rfl rfl (Nat.le_of_ble_eq_true rfl) ⟨Nat.le_of_ble_eq_true rfl, Nat.le_of_ble_eq_true rfl⟩ ⟨Nat.zero_le _, Nat.zero_le _⟩ d_Mo_called_149 ?_
            obtain ⟨hb41, hs⟩ := oq_if hs
            exact jm_zret (Lf := moL D g) ok (nz_b hb41) fin hs d_Mo_called_152
        · replace hs := oq_pos c36 hs
          refine jr_iconst ok d_Mo_called_132 ?_
          exact jm_zret (Lf := moL D g) ok (by decide +kernel) fin hs d_Mo_called_133
      · replace hs := oq_neg c34 hs
        refine jr_aload_n ok 0 d_Mo_called_86 rfl rfl ?_
        obtain ⟨r42, S42, hc42, hs⟩ := mb2_some hs
        refine jr_mV1 ok hR m_Mo_319 (c_Mo_match (jx_l X) D g S  r42 S42 hc42) rfl rfl rfl rfl (Nat.le_of_ble_eq_true rfl) ⟨Nat.le_of_ble_eq_true rfl, Nat.le_of_ble_eq_true rfl⟩ ⟨Nat.zero_le _, Nat.zero_le _⟩ d_Mo_called_87 ?_
        refine jr_wif_ne 95 ok rfl d_Mo_called_90 (by decide) (fun c43 => ?_) (fun c43 => ?_)
        · replace hs := oq_neg c43 hs
          refine jr_aload_n ok 0 d_Mo_called_95 rfl rfl ?_
          refine jr_get (v := .int (ii S42.m_kind)) ok 0 f_Mo_201 rfl rfl d_Mo_called_96 ?_
          refine jr_bipush ok d_Mo_called_99 (by decide +kernel) ?_
          refine jr_wicmp_ne 108 ok rfl (show w32 44 = 44 by decide) d_Mo_called_101 (by decide) (fun c44 => ?_) (fun c44 => ?_)
          · replace hs := oq_neg c44 hs
            refine jr_iconst ok d_Mo_called_108 ?_
            exact jr_lv [0, 1, 2] rfl (B_109 v1 v2 0 S42 hs)
          · replace hs := oq_pos c44 hs
            refine jr_iconst ok d_Mo_called_104 ?_
            refine jr_goto 109 ok d_Mo_called_105 (by decide) ?_
            exact jr_lv [0, 1, 2] rfl (B_109 v1 v2 1 S42 hs)
        · replace hs := oq_pos c43 hs
          refine jr_iconst ok d_Mo_called_93 ?_
          exact jm_zret (Lf := moL D g) ok (by decide +kernel) fin hs d_Mo_called_94
  have B_81 : ∀ (v1 : Int) (v2 : Int) (t0 : Int) (S : MS), q_Mo_called_81 v1 v2 t0 S = some (r, S9) → jw X 0 0 (moL D g S) [(0, .ref (g 0)), (1, .int (ii v1)), (2, .int (ii v2))] 81 [.int (ii t0)] := by
    intro v1 v2 t0 S hs
    rw [q_Mo_called_81] at hs
    refine jr_istore_n [(3, .int (ii t0)), (0, .ref (g 0)), (1, .int (ii v1)), (2, .int (ii v2))] ok d_Mo_called_81 rfl (by rw [hN]; decide) rfl ?_
    exact jr_lv [1, 2, 3, 0] rfl (B_82 fU v1 v2 t0 S hs)
  have B_40 : ∀ (v1 : Int) (S : MS), q_Mo_called_40 v1 S = some (r, S9) → jw X 0 0 (moL D g S) [(0, .ref (g 0)), (1, .int (ii v1))] 40 [] := by
    intro v1 S hs
    rw [q_Mo_called_40] at hs
    refine jr_aload_n ok 0 d_Mo_called_40 rfl rfl ?_
    refine jr_bipush ok d_Mo_called_41 (by decide +kernel) ?_
    obtain ⟨r29, S29, hc29, hs⟩ := mb2_some hs
    refine jr_mV1 ok hR m_Mo_313 (c_Mo_need (jx_l X) D g S 40 r29 S29 hc29) rfl rfl rfl rfl (Nat.le_of_ble_eq_true rfl) ⟨Nat.le_of_ble_eq_true rfl, Nat.le_of_ble_eq_true rfl⟩ ⟨Nat.zero_le _, Nat.zero_le _⟩ d_Mo_called_43 ?_
    refine jr_wif_ne 51 ok rfl d_Mo_called_46 (by decide) (fun c30 => ?_) (fun c30 => ?_)
    · replace hs := oq_neg c30 hs
      refine jr_aload_n ok 0 d_Mo_called_51 rfl rfl ?_
      refine jr_get (v := .int (ii S29.m_to)) ok 0 f_Mo_192 rfl rfl d_Mo_called_52 ?_
      refine jr_istore_n [(2, .int (ii S29.m_to)), (0, .ref (g 0)), (1, .int (ii v1))] ok d_Mo_called_55 rfl (by rw [hN]; decide) rfl ?_
      refine jr_aload_n ok 1 d_Mo_called_56 rfl rfl ?_
      refine jr_bipush ok d_Mo_called_57 (by decide +kernel) ?_
      obtain ⟨r31, S31, hc31, hs⟩ := mb2_some hs
      refine jr_mV1 ok hR m_Mo_313 (c_Mo_need (jx_l X) D g S29 123 r31 S31 hc31) rfl rfl rfl rfl (Nat.le_of_ble_eq_true rfl) ⟨Nat.le_of_ble_eq_true rfl, Nat.le_of_ble_eq_true rfl⟩ ⟨Nat.zero_le _, Nat.zero_le _⟩ d_Mo_called_59 ?_
      refine jr_wif_ne 67 ok rfl d_Mo_called_62 (by decide) (fun c32 => ?_) (fun c32 => ?_)
      · replace hs := oq_neg c32 hs
        refine jr_aload_n ok 1 d_Mo_called_67 rfl rfl ?_
        refine jr_get (v := .int (ii S31.m_kind)) ok 0 f_Mo_201 rfl rfl d_Mo_called_68 ?_
        refine jr_bipush ok d_Mo_called_71 (by decide +kernel) ?_
        refine jr_wicmp_eq 80 ok rfl (show w32 125 = 125 by decide) d_Mo_called_73 (by decide) (fun c33 => ?_) (fun c33 => ?_)
        · replace hs := oq_pos c33 hs
          refine jr_iconst ok d_Mo_called_80 ?_
          exact jr_lv [1, 2, 0] rfl (B_81 v1 S29.m_to 0 S31 hs)
        · replace hs := oq_neg c33 hs
          refine jr_iconst ok d_Mo_called_76 ?_
          refine jr_goto 81 ok d_Mo_called_77 (by decide) ?_
          exact jr_lv [1, 2, 0] rfl (B_81 v1 S29.m_to 1 S31 hs)
      · replace hs := oq_pos c32 hs
        refine jr_iconst ok d_Mo_called_65 ?_
        exact jm_zret (Lf := moL D g) ok (by decide +kernel) fin hs d_Mo_called_66
    · replace hs := oq_pos c30 hs
      refine jr_iconst ok d_Mo_called_49 ?_
      exact jm_zret (Lf := moL D g) ok (by decide +kernel) fin hs d_Mo_called_50
  show jw X 0 0 (moL D g S) [(0, .ref (g 0)), (1, .int (ii v1))] 0 []
  rw [s_Mo_called] at hs
  refine jr_aload_n ok 0 d_Mo_called_0 rfl rfl ?_
  refine jr_get (v := .ref (g 10)) ok 0 f_Mo_41 rfl rfl d_Mo_called_1 ?_
  refine jr_aload_n ok 0 d_Mo_called_4 rfl rfl ?_
  refine jr_get (v := .int (ii S.m_pile)) ok 0 f_Mo_253 rfl rfl d_Mo_called_5 ?_
  refine jr_iconst ok d_Mo_called_8 ?_
  obtain ⟨hb50, hs⟩ := oq_if hs
  refine jr_iast (moL D g (MS.w_m_tableNames S (aU S.m_tableNames S.m_pile 0))) ok 10 rfl rfl hb50.1 hb50.2  rfl d_Mo_called_9 ?_
  refine jr_aload_n ok 0 d_Mo_called_10 rfl rfl ?_
  obtain ⟨r51, S51, hc51, hs⟩ := mb2_some hs
  refine jr_mV1 ok hR m_Mo_223 (c_Mo_next (jx_l X) D g (MS.w_m_tableNames S (aU S.m_tableNames S.m_pile 0))  r51 S51 hc51) rfl rfl rfl rfl (Nat.le_of_ble_eq_true rfl) ⟨Nat.le_of_ble_eq_true rfl, Nat.le_of_ble_eq_true rfl⟩ ⟨Nat.zero_le _, Nat.zero_le _⟩ d_Mo_called_11 ?_
  refine jr_wif_eq 49 ok rfl d_Mo_called_14 (by decide) (fun c52 => ?_) (fun c52 => ?_)
  · replace hs := oq_pos c52 hs
    refine jr_iconst ok d_Mo_called_49 ?_
    exact jm_zret (Lf := moL D g) ok (by decide +kernel) fin hs d_Mo_called_50
  · replace hs := oq_neg c52 hs
    refine jr_aload_n ok 0 d_Mo_called_17 rfl rfl ?_
    refine jr_bipush ok d_Mo_called_18 (by decide +kernel) ?_
    refine jr_bipush ok d_Mo_called_20 (by decide +kernel) ?_
    refine jr_bipush ok d_Mo_called_22 (by decide +kernel) ?_
    refine jr_bipush ok d_Mo_called_24 (by decide +kernel) ?_
    refine jr_iconst ok d_Mo_called_26 ?_
    obtain ⟨r53, S53, hc53, hs⟩ := mb2_some hs
    refine jr_mV1 ok hR m_Mo_226 (c_Mo_isName (jx_l X) D g S51 98 121 32 32 2 r53 S53 hc53) rfl rfl rfl rfl (Nat.le_of_ble_eq_true rfl) ⟨Nat.le_of_ble_eq_true rfl, Nat.le_of_ble_eq_true rfl⟩ ⟨Nat.zero_le _, Nat.zero_le _⟩ d_Mo_called_27 ?_
    refine jr_wif_eq 40 ok rfl d_Mo_called_30 (by decide) (fun c54 => ?_) (fun c54 => ?_)
    · replace hs := oq_pos c54 hs
      exact jr_lv [0, 1] rfl (B_40 v1 S53 hs)
    · replace hs := oq_neg c54 hs
      refine jr_aload_n ok 0 d_Mo_called_33 rfl rfl ?_
      obtain ⟨r55, S55, hc55, hs⟩ := mb2_some hs
      refine jr_mV1 ok hR m_Mo_316 (c_Mo_by (jx_l X) D g S53  r55 S55 hc55) rfl rfl rfl rfl (Nat.le_of_ble_eq_true rfl) ⟨Nat.le_of_ble_eq_true rfl, Nat.le_of_ble_eq_true rfl⟩ ⟨Nat.zero_le _, Nat.zero_le _⟩ d_Mo_called_34 ?_
      refine jr_wif_eq 49 ok rfl d_Mo_called_37 (by decide) (fun c56 => ?_) (fun c56 => ?_)
      · replace hs := oq_pos c56 hs
        refine jr_iconst ok d_Mo_called_49 ?_
        exact jm_zret (Lf := moL D g) ok (by decide +kernel) fin hs d_Mo_called_50
      · replace hs := oq_neg c56 hs
        exact jr_lv [0, 1] rfl (B_40 v1 S55 hs)

def q_Mo_doneTo_2 : Nat → Int → Int → MS → Option (Int × MS)
  | 0, _, _, _ => none
  | n + 1, v1, v2, S => if w32 v2 = 0 then if v2 = 0 ∨ v2 = 1 then some (v2, S) else none else if w32 S.m_signCount ≤ 0 then if v2 = 0 ∨ v2 = 1 then some (v2, S) else none else if (0 : Int) ≤ (S.m_signCount - 1) ∧ (S.m_signCount - 1) < (32 : Int) then mb1 (s_Mo_rank (S.m_signs (S.m_signCount - 1))) (fun r15 => if w32 r15 < w32 v1 then if v2 = 0 ∨ v2 = 1 then some (v2, S) else none else mb2 (s_Mo_done S ) (fun r18 S18 => (q_Mo_doneTo_2 n) v1 r18 S18)) else none

def s_Mo_doneTo (S : MS) (v1 : Int) : Option (Int × MS) := q_Mo_doneTo_2 fU v1 1 S
set_option maxHeartbeats 4000000 in
set_option maxRecDepth 100000 in
theorem c_Mo_doneTo (l : Launch) (D : jd_T) (g : Nat → Nat) (S : MS) (v1 : Int) (r : Int) (S9 : MS) (hs : s_Mo_doneTo S v1 = some (r, S9)) : jc_C l D y_Mo_doneTo b_Mo_doneTo 3 (some .boolean) { frames := 5, cells := 0, slots := 0, locals := 132 } [.ref (g 0), .int (ii v1)] (moL D g S) (fun _ : Unit => (.returned (some (.int (ii r))), True, (moL D g S9))) := by
  refine jc_of rfl (Nat.le_of_ble_eq_true rfl) ?_
  intro X hl hR hN ok hnm fin
  subst hl
  have B_2 : ∀ (n2 : Nat), ∀ (v1 : Int) (v2 : Int) (S : MS), q_Mo_doneTo_2 n2 v1 v2 S = some (r, S9) → jw X 0 0 (moL D g S) [(0, .ref (g 0)), (1, .int (ii v1)), (2, .int (ii v2))] 2 [] := by
    intro n2
    induction n2 with
    | zero =>
      intro v1 v2 S hs
      rw [q_Mo_doneTo_2] at hs; cases hs
    | succ n2 ih2 =>
      intro v1 v2 S hs
      rw [q_Mo_doneTo_2] at hs
      refine jr_iload_n ok 2 d_Mo_doneTo_2 rfl rfl ?_
      refine jr_wif_eq 39 ok rfl d_Mo_doneTo_3 (by decide) (fun c10 => ?_) (fun c10 => ?_)
      · replace hs := oq_pos c10 hs
        refine jr_iload_n ok 2 d_Mo_doneTo_39 rfl rfl ?_
        obtain ⟨hb11, hs⟩ := oq_if hs
        exact jm_zret (Lf := moL D g) ok (nz_b hb11) fin hs d_Mo_doneTo_40
      · replace hs := oq_neg c10 hs
        refine jr_aload_n ok 0 d_Mo_doneTo_6 rfl rfl ?_
        refine jr_get (v := .int (ii S.m_signCount)) ok 0 f_Mo_294 rfl rfl d_Mo_doneTo_7 ?_
        refine jr_wif_le 39 ok rfl d_Mo_doneTo_10 (by decide) (fun c12 => ?_) (fun c12 => ?_)
        · replace hs := oq_pos c12 hs
          refine jr_iload_n ok 2 d_Mo_doneTo_39 rfl rfl ?_
          obtain ⟨hb13, hs⟩ := oq_if hs
          exact jm_zret (Lf := moL D g) ok (nz_b hb13) fin hs d_Mo_doneTo_40
        · replace hs := oq_neg c12 hs
          refine jr_aload_n ok 0 d_Mo_doneTo_13 rfl rfl ?_
          refine jr_get (v := .ref (g 23)) ok 0 f_Mo_82 rfl rfl d_Mo_doneTo_14 ?_
          refine jr_aload_n ok 0 d_Mo_doneTo_17 rfl rfl ?_
          refine jr_get (v := .int (ii S.m_signCount)) ok 0 f_Mo_294 rfl rfl d_Mo_doneTo_18 ?_
          refine jr_iconst ok d_Mo_doneTo_21 ?_
          refine jr_isub ok d_Mo_doneTo_22 ?_
          obtain ⟨hb14, hs⟩ := oq_if hs
          refine jr_iald ok 23 rfl rfl hb14.1 hb14.2 d_Mo_doneTo_23 ?_
          obtain ⟨r15, hc15, hs⟩ := mb1_some hs
          refine jr_mS1 ok hR m_Mo_307 (c_Mo_rank (jx_l X) D (S.m_signs (S.m_signCount - 1)) r15 hc15) rfl rfl (Nat.le_of_ble_eq_true rfl) ⟨Nat.le_of_ble_eq_true rfl, Nat.le_of_ble_eq_true rfl⟩ ⟨Nat.zero_le _, Nat.zero_le _⟩ d_Mo_doneTo_24 ?_
          refine jr_iload_n ok 1 d_Mo_doneTo_27 rfl rfl ?_
          refine jr_wicmp_lt 39 ok rfl rfl d_Mo_doneTo_28 (by decide) (fun c16 => ?_) (fun c16 => ?_)
          · replace hs := oq_pos c16 hs
            refine jr_iload_n ok 2 d_Mo_doneTo_39 rfl rfl ?_
            obtain ⟨hb17, hs⟩ := oq_if hs
            exact jm_zret (Lf := moL D g) ok (nz_b hb17) fin hs d_Mo_doneTo_40
          · replace hs := oq_neg c16 hs
            refine jr_aload_n ok 0 d_Mo_doneTo_31 rfl rfl ?_
            obtain ⟨r18, S18, hc18, hs⟩ := mb2_some hs
            refine jr_mV1 ok hR m_Mo_310 (c_Mo_done (jx_l X) D g S  r18 S18 hc18) rfl rfl rfl rfl (Nat.le_of_ble_eq_true rfl) ⟨Nat.le_of_ble_eq_true rfl, Nat.le_of_ble_eq_true rfl⟩ ⟨Nat.zero_le _, Nat.zero_le _⟩ d_Mo_doneTo_32 ?_
            refine jr_istore_n [(2, .int (ii r18)), (0, .ref (g 0)), (1, .int (ii v1))] ok d_Mo_doneTo_35 rfl (by rw [hN]; decide) rfl ?_
            refine jr_goto 2 ok d_Mo_doneTo_36 (by decide) ?_
            exact jr_lv [1, 2, 0] rfl (ih2 v1 r18 S18 hs)
  show jw X 0 0 (moL D g S) [(0, .ref (g 0)), (1, .int (ii v1))] 0 []
  rw [s_Mo_doneTo] at hs
  refine jr_iconst ok d_Mo_doneTo_0 ?_
  refine jr_istore_n [(2, .int (ii 1)), (0, .ref (g 0)), (1, .int (ii v1))] ok d_Mo_doneTo_1 rfl (by rw [hN]; decide) rfl ?_
  exact jr_lv [1, 2, 0] rfl (B_2 fU v1 1 S hs)

def q_Mo_operator_90  (S : MS) : Option (Int × MS) := mb2 (s_Mo_flaw S 2 S.m_from) (fun r27 S27 => if r27 = 0 ∨ r27 = 1 then some (r27, S27) else none)

def q_Mo_operator_18 (v1 : Int) (S : MS) : Option (Int × MS) := mb2 (s_Mo_doneTo S v1) (fun r21 S21 => if w32 r21 = 0 then some (0, S21) else if (0 : Int) ≤ S21.m_signCount ∧ S21.m_signCount < (32 : Int) then if (0 : Int) ≤ S21.m_signCount ∧ S21.m_signCount < (32 : Int) then mb2 (s_Mo_next (MS.w_m_wants (MS.w_m_signCount (MS.w_m_signPlaces (MS.w_m_signs S21 (aU S21.m_signs S21.m_signCount S21.m_kind)) (aU S21.m_signPlaces S21.m_signCount S21.m_from)) (S21.m_signCount + 1)) 1) ) (fun r25 S25 => if r25 = 0 ∨ r25 = 1 then some (r25, S25) else none) else none else none)

def s_Mo_operator (S : MS)  : Option (Int × MS) := mb1 (s_Mo_rank S.m_kind) (fun r29 => if w32 r29 = 1 then q_Mo_operator_18 r29 S else if w32 r29 = 2 then q_Mo_operator_18 r29 S else if w32 S.m_kind = 41 then mb2 (s_Mo_isOpen S ) (fun r33 S33 => if w32 r33 = 0 then q_Mo_operator_90 S33 else mb2 (s_Mo_doneTo S33 1) (fun r35 S35 => if w32 r35 = 0 then some (0, S35) else mb2 (s_Mo_next (MS.w_m_open (MS.w_m_signCount S35 (S35.m_signCount - 1)) (S35.m_open - 1)) ) (fun r37 S37 => if w32 r37 = 0 then some (0, S37) else mb2 (s_Mo_doneTo S37 3) (fun r39 S39 => if w32 r39 = 0 then some (0, S39) else some (1, S39))))) else q_Mo_operator_90 S)
set_option maxHeartbeats 4000000 in
set_option maxRecDepth 100000 in
theorem c_Mo_operator (l : Launch) (D : jd_T) (g : Nat → Nat) (S : MS)  (r : Int) (S9 : MS) (hs : s_Mo_operator S  = some (r, S9)) : jc_C l D y_Mo_operator b_Mo_operator 2 (some .boolean) { frames := 6, cells := 0, slots := 0, locals := 154 } [.ref (g 0)] (moL D g S) (fun _ : Unit => (.returned (some (.int (ii r))), True, (moL D g S9))) := by
  refine jc_of rfl (Nat.le_of_ble_eq_true rfl) ?_
  intro X hl hR hN ok hnm fin
  subst hl
  have B_90 : ∀ (S : MS), q_Mo_operator_90 S = some (r, S9) → jw X 0 0 (moL D g S) [(0, .ref (g 0))] 90 [] := by
    intro S hs
    rw [q_Mo_operator_90] at hs
    refine jr_aload_n ok 0 d_Mo_operator_90 rfl rfl ?_
    refine jr_iconst ok d_Mo_operator_91 ?_
    refine jr_aload_n ok 0 d_Mo_operator_92 rfl rfl ?_
    refine jr_get (v := .int (ii S.m_from)) ok 0 f_Mo_195 rfl rfl d_Mo_operator_93 ?_
    obtain ⟨r27, S27, hc27, hs⟩ := mb2_some hs
    refine jr_mV1 ok hR m_Mo_125 (c_Mo_flaw (jx_l X) D g S 2 S.m_from r27 S27 hc27) rfl rfl rfl rfl (Nat.le_of_ble_eq_true rfl) ⟨Nat.le_of_ble_eq_true rfl, Nat.le_of_ble_eq_true rfl⟩ ⟨Nat.zero_le _, Nat.zero_le _⟩ d_Mo_operator_96 ?_
    obtain ⟨hb28, hs⟩ := oq_if hs
    exact jm_zret (Lf := moL D g) ok (nz_b hb28) fin hs d_Mo_operator_99
  have B_18 : ∀ (v1 : Int) (S : MS), q_Mo_operator_18 v1 S = some (r, S9) → jw X 0 0 (moL D g S) [(0, .ref (g 0)), (1, .int (ii v1))] 18 [] := by
    intro v1 S hs
    rw [q_Mo_operator_18] at hs
    refine jr_aload_n ok 0 d_Mo_operator_18 rfl rfl ?_
    refine jr_iload_n ok 1 d_Mo_operator_19 rfl rfl ?_
    obtain ⟨r21, S21, hc21, hs⟩ := mb2_some hs
    refine jr_mV1 ok hR m_Mo_340 (c_Mo_doneTo (jx_l X) D g S v1 r21 S21 hc21) rfl rfl rfl rfl (Nat.le_of_ble_eq_true rfl) ⟨Nat.le_of_ble_eq_true rfl, Nat.le_of_ble_eq_true rfl⟩ ⟨Nat.zero_le _, Nat.zero_le _⟩ d_Mo_operator_20 ?_
    refine jr_wif_ne 28 ok rfl d_Mo_operator_23 (by decide) (fun c22 => ?_) (fun c22 => ?_)
    · replace hs := oq_neg c22 hs
      refine jr_aload_n ok 0 d_Mo_operator_28 rfl rfl ?_
      refine jr_get (v := .ref (g 23)) ok 0 f_Mo_82 rfl rfl d_Mo_operator_29 ?_
      refine jr_aload_n ok 0 d_Mo_operator_32 rfl rfl ?_
      refine jr_get (v := .int (ii S21.m_signCount)) ok 0 f_Mo_294 rfl rfl d_Mo_operator_33 ?_
      refine jr_aload_n ok 0 d_Mo_operator_36 rfl rfl ?_
      refine jr_get (v := .int (ii S21.m_kind)) ok 0 f_Mo_201 rfl rfl d_Mo_operator_37 ?_
      obtain ⟨hb23, hs⟩ := oq_if hs
      refine jr_iast (moL D g (MS.w_m_signs S21 (aU S21.m_signs S21.m_signCount S21.m_kind))) ok 23 rfl rfl hb23.1 hb23.2  rfl d_Mo_operator_40 ?_
      refine jr_aload_n ok 0 d_Mo_operator_41 rfl rfl ?_
      refine jr_get (v := .ref (g 24)) ok 0 f_Mo_85 rfl rfl d_Mo_operator_42 ?_
      refine jr_aload_n ok 0 d_Mo_operator_45 rfl rfl ?_
      refine jr_get (v := .int (ii S21.m_signCount)) ok 0 f_Mo_294 rfl rfl d_Mo_operator_46 ?_
      refine jr_aload_n ok 0 d_Mo_operator_49 rfl rfl ?_
      refine jr_get (v := .int (ii S21.m_from)) ok 0 f_Mo_195 rfl rfl d_Mo_operator_50 ?_
      obtain ⟨hb24, hs⟩ := oq_if hs
      refine jr_iast (moL D g (MS.w_m_signPlaces (MS.w_m_signs S21 (aU S21.m_signs S21.m_signCount S21.m_kind)) (aU S21.m_signPlaces S21.m_signCount S21.m_from))) ok 24 rfl rfl hb24.1 hb24.2  rfl d_Mo_operator_53 ?_
      refine jr_aload_n ok 0 d_Mo_operator_54 rfl rfl ?_
      refine jr_dup rfl ok d_Mo_operator_55 ?_
      refine jr_get (v := .int (ii S21.m_signCount)) ok 0 f_Mo_294 rfl rfl d_Mo_operator_56 ?_
      refine jr_iconst ok d_Mo_operator_59 ?_
      refine jr_iadd ok d_Mo_operator_60 ?_
      refine jr_put (moL D g (MS.w_m_signCount (MS.w_m_signPlaces (MS.w_m_signs S21 (aU S21.m_signs S21.m_signCount S21.m_kind)) (aU S21.m_signPlaces S21.m_signCount S21.m_from)) (S21.m_signCount + 1))) ok 0 f_Mo_294 rfl rfl rfl (Nat.le_of_ble_eq_true rfl) rfl d_Mo_operator_61 ?_
      refine jr_aload_n ok 0 d_Mo_operator_64 rfl rfl ?_
      refine jr_iconst ok d_Mo_operator_65 ?_
      refine jr_put (moL D g (MS.w_m_wants (MS.w_m_signCount (MS.w_m_signPlaces (MS.w_m_signs S21 (aU S21.m_signs S21.m_signCount S21.m_kind)) (aU S21.m_signPlaces S21.m_signCount S21.m_from)) (S21.m_signCount + 1)) 1)) ok 0 f_Mo_328 rfl (by decide +kernel) rfl (Nat.le_of_ble_eq_true rfl) rfl d_Mo_operator_66 ?_
      refine jr_aload_n ok 0 d_Mo_operator_69 rfl rfl ?_
      obtain ⟨r25, S25, hc25, hs⟩ := mb2_some hs
      refine jr_mV1 ok hR m_Mo_223 (c_Mo_next (jx_l X) D g (MS.w_m_wants (MS.w_m_signCount (MS.w_m_signPlaces (MS.w_m_signs S21 (aU S21.m_signs S21.m_signCount S21.m_kind)) (aU S21.m_signPlaces S21.m_signCount S21.m_from)) (S21.m_signCount + 1)) 1)  r25 S25 hc25) rfl rfl rfl rfl (Nat.le_of_ble_eq_true rfl) ⟨Nat.le_of_ble_eq_true rfl, Nat.le_of_ble_eq_true rfl⟩ ⟨Nat.zero_le _, Nat.zero_le _⟩ d_Mo_operator_70 ?_
      obtain ⟨hb26, hs⟩ := oq_if hs
      exact jm_zret (Lf := moL D g) ok (nz_b hb26) fin hs d_Mo_operator_73
    · replace hs := oq_pos c22 hs
      refine jr_iconst ok d_Mo_operator_26 ?_
      exact jm_zret (Lf := moL D g) ok (by decide +kernel) fin hs d_Mo_operator_27
  show jw X 0 0 (moL D g S) [(0, .ref (g 0))] 0 []
  rw [s_Mo_operator] at hs
  refine jr_aload_n ok 0 d_Mo_operator_0 rfl rfl ?_
  refine jr_get (v := .int (ii S.m_kind)) ok 0 f_Mo_201 rfl rfl d_Mo_operator_1 ?_
  obtain ⟨r29, hc29, hs⟩ := mb1_some hs
  refine jr_mS1 ok hR m_Mo_307 (c_Mo_rank (jx_l X) D S.m_kind r29 hc29) rfl rfl (Nat.le_of_ble_eq_true rfl) ⟨Nat.le_of_ble_eq_true rfl, Nat.le_of_ble_eq_true rfl⟩ ⟨Nat.zero_le _, Nat.zero_le _⟩ d_Mo_operator_4 ?_
  refine jr_istore_n [(1, .int (ii r29)), (0, .ref (g 0))] ok d_Mo_operator_7 rfl (by rw [hN]; decide) rfl ?_
  refine jr_iload_n ok 0 d_Mo_operator_8 rfl rfl ?_
  refine jr_iconst ok d_Mo_operator_9 ?_
  refine jr_wicmp_eq 18 ok rfl (show w32 1 = 1 by decide) d_Mo_operator_10 (by decide) (fun c30 => ?_) (fun c30 => ?_)
  · replace hs := oq_pos c30 hs
    exact jr_lv [1, 0] rfl (B_18 r29 S hs)
  · replace hs := oq_neg c30 hs
    refine jr_iload_n ok 0 d_Mo_operator_13 rfl rfl ?_
    refine jr_iconst ok d_Mo_operator_14 ?_
    refine jr_wicmp_ne 74 ok rfl (show w32 2 = 2 by decide) d_Mo_operator_15 (by decide) (fun c31 => ?_) (fun c31 => ?_)
    · replace hs := oq_neg c31 hs
      refine jr_aload_n ok 1 d_Mo_operator_74 rfl rfl ?_
      refine jr_get (v := .int (ii S.m_kind)) ok 0 f_Mo_201 rfl rfl d_Mo_operator_75 ?_
      refine jr_bipush ok d_Mo_operator_78 (by decide +kernel) ?_
      refine jr_wicmp_ne 90 ok rfl (show w32 41 = 41 by decide) d_Mo_operator_80 (by decide) (fun c32 => ?_) (fun c32 => ?_)
      · replace hs := oq_neg c32 hs
        exact jr_lv [1] rfl (B_90 S hs)
      · replace hs := oq_pos c32 hs
        refine jr_aload_n ok 1 d_Mo_operator_83 rfl rfl ?_
        obtain ⟨r33, S33, hc33, hs⟩ := mb2_some hs
        refine jr_mV1 ok hR m_Mo_343 (c_Mo_isOpen (jx_l X) D g S  r33 S33 hc33) rfl rfl rfl rfl (Nat.le_of_ble_eq_true rfl) ⟨Nat.le_of_ble_eq_true rfl, Nat.le_of_ble_eq_true rfl⟩ ⟨Nat.zero_le _, Nat.zero_le _⟩ d_Mo_operator_84 ?_
        refine jr_wif_ne 100 ok rfl d_Mo_operator_87 (by decide) (fun c34 => ?_) (fun c34 => ?_)
        · replace hs := oq_neg c34 hs
          refine jr_aload_n ok 1 d_Mo_operator_100 rfl rfl ?_
          refine jr_iconst ok d_Mo_operator_101 ?_
          obtain ⟨r35, S35, hc35, hs⟩ := mb2_some hs
          refine jr_mV1 ok hR m_Mo_340 (c_Mo_doneTo (jx_l X) D g S33 1 r35 S35 hc35) rfl rfl rfl rfl (Nat.le_of_ble_eq_true rfl) ⟨Nat.le_of_ble_eq_true rfl, Nat.le_of_ble_eq_true rfl⟩ ⟨Nat.zero_le _, Nat.zero_le _⟩ d_Mo_operator_102 ?_
          refine jr_wif_ne 110 ok rfl d_Mo_operator_105 (by decide) (fun c36 => ?_) (fun c36 => ?_)
          · replace hs := oq_neg c36 hs
            refine jr_aload_n ok 1 d_Mo_operator_110 rfl rfl ?_
            refine jr_dup rfl ok d_Mo_operator_111 ?_
            refine jr_get (v := .int (ii S35.m_signCount)) ok 0 f_Mo_294 rfl rfl d_Mo_operator_112 ?_
            refine jr_iconst ok d_Mo_operator_115 ?_
            refine jr_isub ok d_Mo_operator_116 ?_
            refine jr_put (moL D g (MS.w_m_signCount S35 (S35.m_signCount - 1))) ok 0 f_Mo_294 rfl rfl rfl (Nat.le_of_ble_eq_true rfl) rfl d_Mo_operator_117 ?_
            refine jr_aload_n ok 1 d_Mo_operator_120 rfl rfl ?_
            refine jr_dup rfl ok d_Mo_operator_121 ?_
            refine jr_get (v := .int (ii S35.m_open)) ok 0 f_Mo_291 rfl rfl d_Mo_operator_122 ?_
            refine jr_iconst ok d_Mo_operator_125 ?_
            refine jr_isub ok d_Mo_operator_126 ?_
            refine jr_put (moL D g (MS.w_m_open (MS.w_m_signCount S35 (S35.m_signCount - 1)) (S35.m_open - 1))) ok 0 f_Mo_291 rfl rfl rfl (Nat.le_of_ble_eq_true rfl) rfl d_Mo_operator_127 ?_
            refine jr_aload_n ok 1 d_Mo_operator_130 rfl rfl ?_
            obtain ⟨r37, S37, hc37, hs⟩ := mb2_some hs
            refine jr_mV1 ok hR m_Mo_223 (c_Mo_next (jx_l X) D g (MS.w_m_open (MS.w_m_signCount S35 (S35.m_signCount - 1)) (S35.m_open - 1))  r37 S37 hc37) rfl rfl rfl rfl (Nat.le_of_ble_eq_true rfl) ⟨Nat.le_of_ble_eq_true rfl, Nat.le_of_ble_eq_true rfl⟩ ⟨Nat.zero_le _, Nat.zero_le _⟩ d_Mo_operator_131 ?_
            refine jr_wif_eq 149 ok rfl d_Mo_operator_134 (by decide) (fun c38 => ?_) (fun c38 => ?_)
            · replace hs := oq_pos c38 hs
              refine jr_iconst ok d_Mo_operator_149 ?_
              exact jm_zret (Lf := moL D g) ok (by decide +kernel) fin hs d_Mo_operator_150
            · replace hs := oq_neg c38 hs
              refine jr_aload_n ok 1 d_Mo_operator_137 rfl rfl ?_
              refine jr_iconst ok d_Mo_operator_138 ?_
              obtain ⟨r39, S39, hc39, hs⟩ := mb2_some hs
              refine jr_mV1 ok hR m_Mo_340 (c_Mo_doneTo (jx_l X) D g S37 3 r39 S39 hc39) rfl rfl rfl rfl (Nat.le_of_ble_eq_true rfl) ⟨Nat.le_of_ble_eq_true rfl, Nat.le_of_ble_eq_true rfl⟩ ⟨Nat.zero_le _, Nat.zero_le _⟩ d_Mo_operator_139 ?_
              refine jr_wif_eq 149 ok rfl d_Mo_operator_142 (by decide) (fun c40 => ?_) (fun c40 => ?_)
              · replace hs := oq_pos c40 hs
                refine jr_iconst ok d_Mo_operator_149 ?_
                exact jm_zret (Lf := moL D g) ok (by decide +kernel) fin hs d_Mo_operator_150
              · replace hs := oq_neg c40 hs
                refine jr_iconst ok d_Mo_operator_145 ?_
                refine jr_goto 150 ok d_Mo_operator_146 (by decide) ?_
                exact jm_zret (Lf := moL D g) ok (by decide +kernel) fin hs d_Mo_operator_150
          · replace hs := oq_pos c36 hs
            refine jr_iconst ok d_Mo_operator_108 ?_
            exact jm_zret (Lf := moL D g) ok (by decide +kernel) fin hs d_Mo_operator_109
        · replace hs := oq_pos c34 hs
          exact jr_lv [1] rfl (B_90 S33 hs)
    · replace hs := oq_pos c31 hs
      exact jr_lv [1, 0] rfl (B_18 r29 S hs)

def q_Mo_operand_109  (S : MS) : Option (Int × MS) := mb2 (s_Mo_doneTo S 3) (fun r32 S32 => if r32 = 0 ∨ r32 = 1 then some (r32, S32) else none)

def q_Mo_operand_100  (S : MS) : Option (Int × MS) := mb2 (s_Mo_next S ) (fun r30 S30 => if w32 r30 = 0 then some (0, S30) else q_Mo_operand_109 S30)

def q_Mo_operand_85 (v1 : Int) (S : MS) : Option (Int × MS) := if 0 ≤ w32 v1 then q_Mo_operand_109 S else if w32 S.m_works = 0 then q_Mo_operand_100 S else mb2 (s_Mo_number S ) (fun r29 S29 => q_Mo_operand_100 S29)

def q_Mo_operand_71 (v1 : Int) (S : MS) : Option (Int × MS) := if w32 v1 < 0 then q_Mo_operand_85 v1 S else mb2 (s_Mo_called S v1) (fun r25 S25 => if w32 r25 = 0 then some (0, S25) else q_Mo_operand_85 v1 S25)

def q_Mo_operand_35 (t0 : Int) (S : MS) : Option (Int × MS) := mb2 (s_Mo_opens S t0) (fun r22 S22 => if r22 = 0 ∨ r22 = 1 then some (r22, S22) else none)

def q_Mo_operand_18  (S : MS) : Option (Int × MS) := if w32 S.m_kind = 45 then q_Mo_operand_35 109 S else q_Mo_operand_35 40 S

def s_Mo_operand (S : MS)  : Option (Int × MS) := if w32 S.m_kind = 45 then q_Mo_operand_18 S else if w32 S.m_kind = 40 then q_Mo_operand_18 S else mb2 (s_Mo_function (MS.w_m_wants S 0) ) (fun r36 S36 => if w32 S36.m_kind = 1 then q_Mo_operand_71 r36 S36 else if 0 ≤ w32 r36 then q_Mo_operand_71 r36 S36 else mb2 (s_Mo_flaw S36 2 S36.m_from) (fun r39 S39 => if r39 = 0 ∨ r39 = 1 then some (r39, S39) else none))
set_option maxHeartbeats 4000000 in
set_option maxRecDepth 100000 in
theorem c_Mo_operand (l : Launch) (D : jd_T) (g : Nat → Nat) (S : MS)  (r : Int) (S9 : MS) (hs : s_Mo_operand S  = some (r, S9)) : jc_C l D y_Mo_operand b_Mo_operand 2 (some .boolean) { frames := 6, cells := 0, slots := 0, locals := 154 } [.ref (g 0)] (moL D g S) (fun _ : Unit => (.returned (some (.int (ii r))), True, (moL D g S9))) := by
  refine jc_of rfl (Nat.le_of_ble_eq_true rfl) ?_
  intro X hl hR hN ok hnm fin
  subst hl
  have B_109 : ∀ (S : MS), q_Mo_operand_109 S = some (r, S9) → jw X 0 0 (moL D g S) [(0, .ref (g 0))] 109 [] := by
    intro S hs
    rw [q_Mo_operand_109] at hs
    refine jr_aload_n ok 0 d_Mo_operand_109 rfl rfl ?_
    refine jr_iconst ok d_Mo_operand_110 ?_
    obtain ⟨r32, S32, hc32, hs⟩ := mb2_some hs
    refine jr_mV1 ok hR m_Mo_340 (c_Mo_doneTo (jx_l X) D g S 3 r32 S32 hc32) rfl rfl rfl rfl (Nat.le_of_ble_eq_true rfl) ⟨Nat.le_of_ble_eq_true rfl, Nat.le_of_ble_eq_true rfl⟩ ⟨Nat.zero_le _, Nat.zero_le _⟩ d_Mo_operand_111 ?_
    obtain ⟨hb33, hs⟩ := oq_if hs
    exact jm_zret (Lf := moL D g) ok (nz_b hb33) fin hs d_Mo_operand_114
  have B_100 : ∀ (S : MS), q_Mo_operand_100 S = some (r, S9) → jw X 0 0 (moL D g S) [(0, .ref (g 0))] 100 [] := by
    intro S hs
    rw [q_Mo_operand_100] at hs
    refine jr_aload_n ok 0 d_Mo_operand_100 rfl rfl ?_
    obtain ⟨r30, S30, hc30, hs⟩ := mb2_some hs
    refine jr_mV1 ok hR m_Mo_223 (c_Mo_next (jx_l X) D g S  r30 S30 hc30) rfl rfl rfl rfl (Nat.le_of_ble_eq_true rfl) ⟨Nat.le_of_ble_eq_true rfl, Nat.le_of_ble_eq_true rfl⟩ ⟨Nat.zero_le _, Nat.zero_le _⟩ d_Mo_operand_101 ?_
    refine jr_wif_ne 109 ok rfl d_Mo_operand_104 (by decide) (fun c31 => ?_) (fun c31 => ?_)
    · replace hs := oq_neg c31 hs
      exact jr_lv [0] rfl (B_109 S30 hs)
    · replace hs := oq_pos c31 hs
      refine jr_iconst ok d_Mo_operand_107 ?_
      exact jm_zret (Lf := moL D g) ok (by decide +kernel) fin hs d_Mo_operand_108
  have B_85 : ∀ (v1 : Int) (S : MS), q_Mo_operand_85 v1 S = some (r, S9) → jw X 0 0 (moL D g S) [(0, .ref (g 0)), (1, .int (ii v1))] 85 [] := by
    intro v1 S hs
    rw [q_Mo_operand_85] at hs
    refine jr_iload_n ok 1 d_Mo_operand_85 rfl rfl ?_
    refine jr_wif_ge 109 ok rfl d_Mo_operand_86 (by decide) (fun c27 => ?_) (fun c27 => ?_)
    · replace hs := oq_pos c27 hs
      exact jr_lv [0] rfl (B_109 S hs)
    · replace hs := oq_neg c27 hs
      refine jr_aload_n ok 0 d_Mo_operand_89 rfl rfl ?_
      refine jr_get (v := .int (ii S.m_works)) ok 0 f_Mo_297 rfl rfl d_Mo_operand_90 ?_
      refine jr_wif_eq 100 ok rfl d_Mo_operand_93 (by decide) (fun c28 => ?_) (fun c28 => ?_)
      · replace hs := oq_pos c28 hs
        exact jr_lv [0] rfl (B_100 S hs)
      · replace hs := oq_neg c28 hs
        refine jr_aload_n ok 0 d_Mo_operand_96 rfl rfl ?_
        obtain ⟨r29, S29, hc29, hs⟩ := mb2_some hs
        refine jr_mV0 ok hR m_Mo_337 (c_Mo_number (jx_l X) D g S  r29 S29 hc29) rfl rfl rfl rfl (Nat.le_of_ble_eq_true rfl) ⟨Nat.le_of_ble_eq_true rfl, Nat.le_of_ble_eq_true rfl⟩ ⟨Nat.zero_le _, Nat.zero_le _⟩ d_Mo_operand_97 ?_
        exact jr_lv [0] rfl (B_100 S29 hs)
  have B_71 : ∀ (v1 : Int) (S : MS), q_Mo_operand_71 v1 S = some (r, S9) → jw X 0 0 (moL D g S) [(0, .ref (g 0)), (1, .int (ii v1))] 71 [] := by
    intro v1 S hs
    rw [q_Mo_operand_71] at hs
    refine jr_iload_n ok 1 d_Mo_operand_71 rfl rfl ?_
    refine jr_wif_lt 85 ok rfl d_Mo_operand_72 (by decide) (fun c24 => ?_) (fun c24 => ?_)
    · replace hs := oq_pos c24 hs
      exact jr_lv [0, 1] rfl (B_85 v1 S hs)
    · replace hs := oq_neg c24 hs
      refine jr_aload_n ok 0 d_Mo_operand_75 rfl rfl ?_
      refine jr_iload_n ok 1 d_Mo_operand_76 rfl rfl ?_
      obtain ⟨r25, S25, hc25, hs⟩ := mb2_some hs
      refine jr_mV1 ok hR m_Mo_334 (c_Mo_called (jx_l X) D g S v1 r25 S25 hc25) rfl rfl rfl rfl (Nat.le_of_ble_eq_true rfl) ⟨Nat.le_of_ble_eq_true rfl, Nat.le_of_ble_eq_true rfl⟩ ⟨Nat.zero_le _, Nat.zero_le _⟩ d_Mo_operand_77 ?_
      refine jr_wif_ne 85 ok rfl d_Mo_operand_80 (by decide) (fun c26 => ?_) (fun c26 => ?_)
      · replace hs := oq_neg c26 hs
        exact jr_lv [0, 1] rfl (B_85 v1 S25 hs)
      · replace hs := oq_pos c26 hs
        refine jr_iconst ok d_Mo_operand_83 ?_
        exact jm_zret (Lf := moL D g) ok (by decide +kernel) fin hs d_Mo_operand_84
  have B_35 : ∀ (t0 : Int) (S : MS), q_Mo_operand_35 t0 S = some (r, S9) → jw X 0 0 (moL D g S) [] 35 [.int (ii t0), .ref (g 0)] := by
    intro t0 S hs
    rw [q_Mo_operand_35] at hs
    obtain ⟨r22, S22, hc22, hs⟩ := mb2_some hs
    refine jr_mV1 ok hR m_Mo_325 (c_Mo_opens (jx_l X) D g S t0 r22 S22 hc22) rfl rfl rfl rfl (Nat.le_of_ble_eq_true rfl) ⟨Nat.le_of_ble_eq_true rfl, Nat.le_of_ble_eq_true rfl⟩ ⟨Nat.zero_le _, Nat.zero_le _⟩ d_Mo_operand_35 ?_
    obtain ⟨hb23, hs⟩ := oq_if hs
    exact jm_zret (Lf := moL D g) ok (nz_b hb23) fin hs d_Mo_operand_38
  have B_18 : ∀ (S : MS), q_Mo_operand_18 S = some (r, S9) → jw X 0 0 (moL D g S) [(0, .ref (g 0))] 18 [] := by
    intro S hs
    rw [q_Mo_operand_18] at hs
    refine jr_aload_n ok 0 d_Mo_operand_18 rfl rfl ?_
    refine jr_aload_n ok 0 d_Mo_operand_19 rfl rfl ?_
    refine jr_get (v := .int (ii S.m_kind)) ok 0 f_Mo_201 rfl rfl d_Mo_operand_20 ?_
    refine jr_bipush ok d_Mo_operand_23 (by decide +kernel) ?_
    refine jr_wicmp_ne 33 ok rfl (show w32 45 = 45 by decide) d_Mo_operand_25 (by decide) (fun c21 => ?_) (fun c21 => ?_)
    · replace hs := oq_neg c21 hs
      refine jr_bipush ok d_Mo_operand_33 (by decide +kernel) ?_
      exact jr_lv [] rfl (B_35 40 S hs)
    · replace hs := oq_pos c21 hs
      refine jr_bipush ok d_Mo_operand_28 (by decide +kernel) ?_
      refine jr_goto 35 ok d_Mo_operand_30 (by decide) ?_
      exact jr_lv [] rfl (B_35 109 S hs)
  show jw X 0 0 (moL D g S) [(0, .ref (g 0))] 0 []
  rw [s_Mo_operand] at hs
  refine jr_aload_n ok 0 d_Mo_operand_0 rfl rfl ?_
  refine jr_get (v := .int (ii S.m_kind)) ok 0 f_Mo_201 rfl rfl d_Mo_operand_1 ?_
  refine jr_bipush ok d_Mo_operand_4 (by decide +kernel) ?_
  refine jr_wicmp_eq 18 ok rfl (show w32 45 = 45 by decide) d_Mo_operand_6 (by decide) (fun c34 => ?_) (fun c34 => ?_)
  · replace hs := oq_pos c34 hs
    exact jr_lv [0] rfl (B_18 S hs)
  · replace hs := oq_neg c34 hs
    refine jr_aload_n ok 0 d_Mo_operand_9 rfl rfl ?_
    refine jr_get (v := .int (ii S.m_kind)) ok 0 f_Mo_201 rfl rfl d_Mo_operand_10 ?_
    refine jr_bipush ok d_Mo_operand_13 (by decide +kernel) ?_
    refine jr_wicmp_ne 39 ok rfl (show w32 40 = 40 by decide) d_Mo_operand_15 (by decide) (fun c35 => ?_) (fun c35 => ?_)
    · replace hs := oq_neg c35 hs
      refine jr_aload_n ok 0 d_Mo_operand_39 rfl rfl ?_
      refine jr_iconst ok d_Mo_operand_40 ?_
      refine jr_put (moL D g (MS.w_m_wants S 0)) ok 0 f_Mo_328 rfl (by decide +kernel) rfl (Nat.le_of_ble_eq_true rfl) rfl d_Mo_operand_41 ?_
      refine jr_aload_n ok 0 d_Mo_operand_44 rfl rfl ?_
      obtain ⟨r36, S36, hc36, hs⟩ := mb2_some hs
      refine jr_mV1 ok hR m_Mo_331 (c_Mo_function (jx_l X) D g (MS.w_m_wants S 0)  r36 S36 hc36) rfl rfl rfl rfl (Nat.le_of_ble_eq_true rfl) ⟨Nat.le_of_ble_eq_true rfl, Nat.le_of_ble_eq_true rfl⟩ ⟨Nat.zero_le _, Nat.zero_le _⟩ d_Mo_operand_45 ?_
      refine jr_istore_n [(1, .int (ii r36)), (0, .ref (g 0))] ok d_Mo_operand_48 rfl (by rw [hN]; decide) rfl ?_
      refine jr_aload_n ok 1 d_Mo_operand_49 rfl rfl ?_
      refine jr_get (v := .int (ii S36.m_kind)) ok 0 f_Mo_201 rfl rfl d_Mo_operand_50 ?_
      refine jr_iconst ok d_Mo_operand_53 ?_
      refine jr_wicmp_eq 71 ok rfl (show w32 1 = 1 by decide) d_Mo_operand_54 (by decide) (fun c37 => ?_) (fun c37 => ?_)
      · replace hs := oq_pos c37 hs
        exact jr_lv [1, 0] rfl (B_71 r36 S36 hs)
      · replace hs := oq_neg c37 hs
        refine jr_iload_n ok 0 d_Mo_operand_57 rfl rfl ?_
        refine jr_wif_ge 71 ok rfl d_Mo_operand_58 (by decide) (fun c38 => ?_) (fun c38 => ?_)
        · replace hs := oq_pos c38 hs
          exact jr_lv [1, 0] rfl (B_71 r36 S36 hs)
        · replace hs := oq_neg c38 hs
          refine jr_aload_n ok 1 d_Mo_operand_61 rfl rfl ?_
          refine jr_iconst ok d_Mo_operand_62 ?_
          refine jr_aload_n ok 1 d_Mo_operand_63 rfl rfl ?_
          refine jr_get (v := .int (ii S36.m_from)) ok 0 f_Mo_195 rfl rfl d_Mo_operand_64 ?_
          obtain ⟨r39, S39, hc39, hs⟩ := mb2_some hs
          refine jr_mV1 ok hR m_Mo_125 (c_Mo_flaw (jx_l X) D g S36 2 S36.m_from r39 S39 hc39) rfl rfl rfl rfl (Nat.le_of_ble_eq_true rfl) ⟨Nat.le_of_ble_eq_true rfl, Nat.le_of_ble_eq_true rfl⟩ ⟨Nat.zero_le _, Nat.zero_le _⟩ d_Mo_operand_67 ?_
          obtain ⟨hb40, hs⟩ := oq_if hs
          exact jm_zret (Lf := moL D g) ok (nz_b hb40) fin hs d_Mo_operand_70
    · replace hs := oq_pos c35 hs
      exact jr_lv [0] rfl (B_18 S hs)

def q_Mo_question_96 (v2 : Int) (S : MS) : Option (Int × MS) := if w32 v2 = 0 then some (0, S) else mb2 (s_Mo_doneTo S 1) (fun r29 S29 => if w32 r29 = 0 then some (0, S29) else some (1, S29))

def q_Mo_question_75 (v2 : Int) (S : MS) : Option (Int × MS) := if w32 v2 = 0 then q_Mo_question_96 v2 S else mb2 (s_Mo_isOpen S ) (fun r24 S24 => if w32 r24 = 0 then q_Mo_question_96 v2 S24 else mb2 (s_Mo_flaw S24 2 S24.m_from) (fun r26 S26 => if r26 = 0 ∨ r26 = 1 then some (r26, S26) else none))

def q_Mo_question_71 (k35 : Int → MS → Option (Int × MS)) (t0 : Int) (S : MS) : Option (Int × MS) := k35 t0 S

def q_Mo_question_53 (k35 : Int → MS → Option (Int × MS))  (S : MS) : Option (Int × MS) := if w32 S.m_wants = 0 then mb2 (s_Mo_operator S ) (fun r21 S21 => q_Mo_question_71 k35 r21 S21) else mb2 (s_Mo_operand S ) (fun r22 S22 => q_Mo_question_71 k35 r22 S22)

def q_Mo_question_35 : Nat → Int → MS → Option (Int × MS)
  | 0, _, _ => none
  | n + 1, v2, S => if w32 v2 = 0 then q_Mo_question_75 v2 S else if w32 S.m_kind = 0 then if w32 S.m_wants = 0 then q_Mo_question_75 v2 S else q_Mo_question_53 (q_Mo_question_35 n) S else q_Mo_question_53 (q_Mo_question_35 n) S

def s_Mo_question (S : MS) (v1 : Int) : Option (Int × MS) := if v1 = 0 ∨ v1 = 1 then mb2 (s_Mo_next (MS.w_m_wants (MS.w_m_to (MS.w_m_open (MS.w_m_signCount (MS.w_m_pile (MS.w_m_works S v1) 0) 0) 0) 0) 1) ) (fun r32 S32 => q_Mo_question_35 fU r32 S32) else none
set_option maxHeartbeats 4000000 in
set_option maxRecDepth 100000 in
theorem c_Mo_question (l : Launch) (D : jd_T) (g : Nat → Nat) (S : MS) (v1 : Int) (r : Int) (S9 : MS) (hs : s_Mo_question S v1 = some (r, S9)) : jc_C l D y_Mo_question b_Mo_question 3 (some .boolean) { frames := 7, cells := 0, slots := 0, locals := 175 } [.ref (g 0), .int (ii v1)] (moL D g S) (fun _ : Unit => (.returned (some (.int (ii r))), True, (moL D g S9))) := by
  refine jc_of rfl (Nat.le_of_ble_eq_true rfl) ?_
  intro X hl hR hN ok hnm fin
  subst hl
  have B_96 : ∀ (v2 : Int) (S : MS), q_Mo_question_96 v2 S = some (r, S9) → jw X 0 0 (moL D g S) [(0, .ref (g 0)), (2, .int (ii v2))] 96 [] := by
    intro v2 S hs
    rw [q_Mo_question_96] at hs
    refine jr_iload_n ok 1 d_Mo_question_96 rfl rfl ?_
    refine jr_wif_eq 112 ok rfl d_Mo_question_97 (by decide) (fun c28 => ?_) (fun c28 => ?_)
    · replace hs := oq_pos c28 hs
      refine jr_iconst ok d_Mo_question_112 ?_
      exact jm_zret (Lf := moL D g) ok (by decide +kernel) fin hs d_Mo_question_113
    · replace hs := oq_neg c28 hs
      refine jr_aload_n ok 0 d_Mo_question_100 rfl rfl ?_
      refine jr_iconst ok d_Mo_question_101 ?_
      obtain ⟨r29, S29, hc29, hs⟩ := mb2_some hs
      refine jr_mV1 ok hR m_Mo_340 (c_Mo_doneTo (jx_l X) D g S 1 r29 S29 hc29) rfl rfl rfl rfl (Nat.le_of_ble_eq_true rfl) ⟨Nat.le_of_ble_eq_true rfl, Nat.le_of_ble_eq_true rfl⟩ ⟨Nat.zero_le _, Nat.zero_le _⟩ d_Mo_question_102 ?_
      refine jr_wif_eq 112 ok rfl d_Mo_question_105 (by decide) (fun c30 => ?_) (fun c30 => ?_)
      · replace hs := oq_pos c30 hs
        refine jr_iconst ok d_Mo_question_112 ?_
        exact jm_zret (Lf := moL D g) ok (by decide +kernel) fin hs d_Mo_question_113
      · replace hs := oq_neg c30 hs
        refine jr_iconst ok d_Mo_question_108 ?_
        refine jr_goto 113 ok d_Mo_question_109 (by decide) ?_
        exact jm_zret (Lf := moL D g) ok (by decide +kernel) fin hs d_Mo_question_113
  have B_75 : ∀ (v2 : Int) (S : MS), q_Mo_question_75 v2 S = some (r, S9) → jw X 0 0 (moL D g S) [(0, .ref (g 0)), (2, .int (ii v2))] 75 [] := by
    intro v2 S hs
    rw [q_Mo_question_75] at hs
    refine jr_iload_n ok 1 d_Mo_question_75 rfl rfl ?_
    refine jr_wif_eq 96 ok rfl d_Mo_question_76 (by decide) (fun c23 => ?_) (fun c23 => ?_)
    · replace hs := oq_pos c23 hs
      exact jr_lv [0, 1] rfl (B_96 v2 S hs)
    · replace hs := oq_neg c23 hs
      refine jr_aload_n ok 0 d_Mo_question_79 rfl rfl ?_
      obtain ⟨r24, S24, hc24, hs⟩ := mb2_some hs
      refine jr_mV1 ok hR m_Mo_343 (c_Mo_isOpen (jx_l X) D g S  r24 S24 hc24) rfl rfl rfl rfl (Nat.le_of_ble_eq_true rfl) ⟨Nat.le_of_ble_eq_true rfl, Nat.le_of_ble_eq_true rfl⟩ ⟨Nat.zero_le _, Nat.zero_le _⟩ d_Mo_question_80 ?_
      refine jr_wif_eq 96 ok rfl d_Mo_question_83 (by decide) (fun c25 => ?_) (fun c25 => ?_)
      · replace hs := oq_pos c25 hs
        exact jr_lv [0, 1] rfl (B_96 v2 S24 hs)
      · replace hs := oq_neg c25 hs
        refine jr_aload_n ok 0 d_Mo_question_86 rfl rfl ?_
        refine jr_iconst ok d_Mo_question_87 ?_
        refine jr_aload_n ok 0 d_Mo_question_88 rfl rfl ?_
        refine jr_get (v := .int (ii S24.m_from)) ok 0 f_Mo_195 rfl rfl d_Mo_question_89 ?_
        obtain ⟨r26, S26, hc26, hs⟩ := mb2_some hs
        refine jr_mV1 ok hR m_Mo_125 (c_Mo_flaw (jx_l X) D g S24 2 S24.m_from r26 S26 hc26) rfl rfl rfl rfl (Nat.le_of_ble_eq_true rfl) ⟨Nat.le_of_ble_eq_true rfl, Nat.le_of_ble_eq_true rfl⟩ ⟨Nat.zero_le _, Nat.zero_le _⟩ d_Mo_question_92 ?_
        obtain ⟨hb27, hs⟩ := oq_if hs
        exact jm_zret (Lf := moL D g) ok (nz_b hb27) fin hs d_Mo_question_95
  have B_35 : ∀ (n35 : Nat), ∀ (v2 : Int) (S : MS), q_Mo_question_35 n35 v2 S = some (r, S9) → jw X 0 0 (moL D g S) [(0, .ref (g 0)), (2, .int (ii v2))] 35 [] := by
    intro n35
    induction n35 with
    | zero =>
      intro v2 S hs
      rw [q_Mo_question_35] at hs; cases hs
    | succ n35 ih35 =>
      have B_71 : ∀ (t0 : Int) (S : MS), q_Mo_question_71 (q_Mo_question_35 n35) t0 S = some (r, S9) → jw X 0 0 (moL D g S) [(0, .ref (g 0))] 71 [.int (ii t0)] := by
        intro t0 S hs
        rw [q_Mo_question_71] at hs
        refine jr_istore_n [(2, .int (ii t0)), (0, .ref (g 0))] ok d_Mo_question_71 rfl (by rw [hN]; decide) rfl ?_
        refine jr_goto 35 ok d_Mo_question_72 (by decide) ?_
        exact jr_lv [1, 0] rfl (ih35 t0 S hs)
      have B_53 : ∀ (S : MS), q_Mo_question_53 (q_Mo_question_35 n35) S = some (r, S9) → jw X 0 0 (moL D g S) [(0, .ref (g 0))] 53 [] := by
        intro S hs
        rw [q_Mo_question_53] at hs
        refine jr_aload_n ok 0 d_Mo_question_53 rfl rfl ?_
        refine jr_get (v := .int (ii S.m_wants)) ok 0 f_Mo_328 rfl rfl d_Mo_question_54 ?_
        refine jr_wif_eq 67 ok rfl d_Mo_question_57 (by decide) (fun c20 => ?_) (fun c20 => ?_)
        · replace hs := oq_pos c20 hs
          refine jr_aload_n ok 0 d_Mo_question_67 rfl rfl ?_
          obtain ⟨r21, S21, hc21, hs⟩ := mb2_some hs
          refine jr_mV1 ok hR m_Mo_349 (c_Mo_operator (jx_l X) D g S  r21 S21 hc21) rfl rfl rfl rfl (Nat.le_of_ble_eq_true rfl) ⟨Nat.le_of_ble_eq_true rfl, Nat.le_of_ble_eq_true rfl⟩ ⟨Nat.zero_le _, Nat.zero_le _⟩ d_Mo_question_68 ?_
          exact jr_lv [0] rfl (B_71 r21 S21 hs)
        · replace hs := oq_neg c20 hs
          refine jr_aload_n ok 0 d_Mo_question_60 rfl rfl ?_
          obtain ⟨r22, S22, hc22, hs⟩ := mb2_some hs
          refine jr_mV1 ok hR m_Mo_346 (c_Mo_operand (jx_l X) D g S  r22 S22 hc22) rfl rfl rfl rfl (Nat.le_of_ble_eq_true rfl) ⟨Nat.le_of_ble_eq_true rfl, Nat.le_of_ble_eq_true rfl⟩ ⟨Nat.zero_le _, Nat.zero_le _⟩ d_Mo_question_61 ?_
          refine jr_goto 71 ok d_Mo_question_64 (by decide) ?_
          exact jr_lv [0] rfl (B_71 r22 S22 hs)
      intro v2 S hs
      rw [q_Mo_question_35] at hs
      refine jr_iload_n ok 1 d_Mo_question_35 rfl rfl ?_
      refine jr_wif_eq 75 ok rfl d_Mo_question_36 (by decide) (fun c17 => ?_) (fun c17 => ?_)
      · replace hs := oq_pos c17 hs
        exact jr_lv [0, 1] rfl (B_75 v2 S hs)
      · replace hs := oq_neg c17 hs
        refine jr_aload_n ok 0 d_Mo_question_39 rfl rfl ?_
        refine jr_get (v := .int (ii S.m_kind)) ok 0 f_Mo_201 rfl rfl d_Mo_question_40 ?_
        refine jr_wif_ne 53 ok rfl d_Mo_question_43 (by decide) (fun c18 => ?_) (fun c18 => ?_)
        · replace hs := oq_neg c18 hs
          exact jr_lv [0] rfl (B_53 S hs)
        · replace hs := oq_pos c18 hs
          refine jr_aload_n ok 0 d_Mo_question_46 rfl rfl ?_
          refine jr_get (v := .int (ii S.m_wants)) ok 0 f_Mo_328 rfl rfl d_Mo_question_47 ?_
          refine jr_wif_eq 75 ok rfl d_Mo_question_50 (by decide) (fun c19 => ?_) (fun c19 => ?_)
          · replace hs := oq_pos c19 hs
            exact jr_lv [0, 1] rfl (B_75 v2 S hs)
          · replace hs := oq_neg c19 hs
            exact jr_lv [0] rfl (B_53 S hs)
  show jw X 0 0 (moL D g S) [(0, .ref (g 0)), (1, .int (ii v1))] 0 []
  rw [s_Mo_question] at hs
  refine jr_aload_n ok 0 d_Mo_question_0 rfl rfl ?_
  refine jr_iload_n ok 1 d_Mo_question_1 rfl rfl ?_
  obtain ⟨hb31, hs⟩ := oq_if hs
  refine jr_put (moL D g (MS.w_m_works S v1)) ok 0 f_Mo_297 rfl (nz_b hb31) (fit_z hb31) (Nat.le_of_ble_eq_true rfl) rfl d_Mo_question_2 ?_
  refine jr_aload_n ok 0 d_Mo_question_5 rfl rfl ?_
  refine jr_iconst ok d_Mo_question_6 ?_
  refine jr_put (moL D g (MS.w_m_pile (MS.w_m_works S v1) 0)) ok 0 f_Mo_253 rfl rfl rfl (Nat.le_of_ble_eq_true rfl) rfl d_Mo_question_7 ?_
  refine jr_aload_n ok 0 d_Mo_question_10 rfl rfl ?_
  refine jr_iconst ok d_Mo_question_11 ?_
  refine jr_put (moL D g (MS.w_m_signCount (MS.w_m_pile (MS.w_m_works S v1) 0) 0)) ok 0 f_Mo_294 rfl rfl rfl (Nat.le_of_ble_eq_true rfl) rfl d_Mo_question_12 ?_
  refine jr_aload_n ok 0 d_Mo_question_15 rfl rfl ?_
  refine jr_iconst ok d_Mo_question_16 ?_
  refine jr_put (moL D g (MS.w_m_open (MS.w_m_signCount (MS.w_m_pile (MS.w_m_works S v1) 0) 0) 0)) ok 0 f_Mo_291 rfl rfl rfl (Nat.le_of_ble_eq_true rfl) rfl d_Mo_question_17 ?_
  refine jr_aload_n ok 0 d_Mo_question_20 rfl rfl ?_
  refine jr_iconst ok d_Mo_question_21 ?_
  refine jr_put (moL D g (MS.w_m_to (MS.w_m_open (MS.w_m_signCount (MS.w_m_pile (MS.w_m_works S v1) 0) 0) 0) 0)) ok 0 f_Mo_192 rfl rfl rfl (Nat.le_of_ble_eq_true rfl) rfl d_Mo_question_22 ?_
  refine jr_aload_n ok 0 d_Mo_question_25 rfl rfl ?_
  refine jr_iconst ok d_Mo_question_26 ?_
  refine jr_put (moL D g (MS.w_m_wants (MS.w_m_to (MS.w_m_open (MS.w_m_signCount (MS.w_m_pile (MS.w_m_works S v1) 0) 0) 0) 0) 1)) ok 0 f_Mo_328 rfl (by decide +kernel) rfl (Nat.le_of_ble_eq_true rfl) rfl d_Mo_question_27 ?_
  refine jr_aload_n ok 0 d_Mo_question_30 rfl rfl ?_
  obtain ⟨r32, S32, hc32, hs⟩ := mb2_some hs
  refine jr_mV1 ok hR m_Mo_223 (c_Mo_next (jx_l X) D g (MS.w_m_wants (MS.w_m_to (MS.w_m_open (MS.w_m_signCount (MS.w_m_pile (MS.w_m_works S v1) 0) 0) 0) 0) 1)  r32 S32 hc32) rfl rfl rfl rfl (Nat.le_of_ble_eq_true rfl) ⟨Nat.le_of_ble_eq_true rfl, Nat.le_of_ble_eq_true rfl⟩ ⟨Nat.zero_le _, Nat.zero_le _⟩ d_Mo_question_31 ?_
  refine jr_istore_n [(2, .int (ii r32)), (0, .ref (g 0)), (1, .int (ii v1))] ok d_Mo_question_34 rfl (by rw [hN]; decide) rfl ?_
  exact jr_lv [1, 0] rfl (B_35 fU r32 S32 hs)

def q_Mo_ask_122 (v6 : Int) (S : MS) : Option (Int × MS) := if w32 v6 = 0 then some (-1, MS.w_m_length S 0) else some (S.m_rows, MS.w_m_length S 0)

def q_Mo_ask_111 (t0 : Int) (S : MS) : Option (Int × MS) := if w32 t0 = 0 then q_Mo_ask_122 t0 S else mb2 (s_Mo_keepTable S ) (fun r21 S21 => q_Mo_ask_122 t0 S21)

def q_Mo_ask_110  (S : MS) : Option (Int × MS) := q_Mo_ask_111 0 S

def q_Mo_ask_47 (v1 : Int64) (v3 : Int64) (v5 : Int) (t0 : Int) (S : MS) : Option (Int × MS) := if w32 t0 ≤ 0 then mb2 (s_Mo_question (MS.w_m_isTable (MS.w_m_windows (MS.w_m_width (MS.w_m_windowsFrom (MS.w_m_faultPlace (MS.w_m_faultCode (MS.w_m_code S t0) 0) 0) v1) v3) v5) 0) 0) (fun r16 S16 => if w32 r16 = 0 then q_Mo_ask_110 S16 else mb2 (s_Mo_question S16 1) (fun r18 S18 => if w32 r18 = 0 then q_Mo_ask_110 S18 else q_Mo_ask_111 1 S18)) else some (0, MS.w_m_code S t0)

def q_Mo_ask_42 (v1 : Int64) (v3 : Int64) (v5 : Int) (S : MS) : Option (Int × MS) := q_Mo_ask_47 v1 v3 v5 1 S

def s_Mo_ask (S : MS) (v1 : Int64) (v3 : Int64) (v5 : Int) : Option (Int × MS) := if v1.toInt < 0 then q_Mo_ask_42 v1 v3 v5 S else if 1099511627775 < v1.toInt then q_Mo_ask_42 v1 v3 v5 S else if v3.toInt < 1 then q_Mo_ask_42 v1 v3 v5 S else if 1099511627775 < v3.toInt then q_Mo_ask_42 v1 v3 v5 S else if w32 v5 < 1 then q_Mo_ask_42 v1 v3 v5 S else if w32 v5 ≤ 64 then q_Mo_ask_47 v1 v3 v5 0 S else q_Mo_ask_42 v1 v3 v5 S
set_option maxHeartbeats 4000000 in
set_option maxRecDepth 100000 in
theorem c_Mo_ask (l : Launch) (D : jd_T) (g : Nat → Nat) (S : MS) (v1 : Int64) (v3 : Int64) (v5 : Int) (r : Int) (S9 : MS) (hs : s_Mo_ask S v1 v3 v5 = some (r, S9)) : jc_C l D y_Mo_ask b_Mo_ask 7 (some .int) { frames := 8, cells := 0, slots := 0, locals := 197 } [.ref (g 0), .long v1, .long v3, .int (ii v5)] (moL D g S) (fun _ : Unit => (.returned (some (.int (ii r))), True, (moL D g S9))) := by
  refine jc_of rfl (Nat.le_of_ble_eq_true rfl) ?_
  intro X hl hR hN ok hnm fin
  subst hl
  have B_122 : ∀ (v6 : Int) (S : MS), q_Mo_ask_122 v6 S = some (r, S9) → jw X 0 0 (moL D g S) [(0, .ref (g 0)), (6, .int (ii v6))] 122 [] := by
    intro v6 S hs
    rw [q_Mo_ask_122] at hs
    refine jr_aload_n ok 0 d_Mo_ask_122 rfl rfl ?_
    refine jr_iconst ok d_Mo_ask_123 ?_
    refine jr_put (moL D g (MS.w_m_length S 0)) ok 0 f_Mo_105 rfl rfl rfl (Nat.le_of_ble_eq_true rfl) rfl d_Mo_ask_124 ?_
    refine jr_iload ok 1 d_Mo_ask_127 rfl ?_
    refine jr_wif_eq 139 ok rfl d_Mo_ask_129 (by decide) (fun c22 => ?_) (fun c22 => ?_)
    · replace hs := oq_pos c22 hs
      refine jr_iconst ok d_Mo_ask_139 ?_
      exact jm_iret (Lf := moL D g) ok fin hs d_Mo_ask_140
    · replace hs := oq_neg c22 hs
      refine jr_aload_n ok 0 d_Mo_ask_132 rfl rfl ?_
      refine jr_get (v := .int (ii S.m_rows)) ok 0 f_Mo_358 rfl rfl d_Mo_ask_133 ?_
      refine jr_goto 140 ok d_Mo_ask_136 (by decide) ?_
      exact jm_iret (Lf := moL D g) ok fin hs d_Mo_ask_140
  have B_111 : ∀ (t0 : Int) (S : MS), q_Mo_ask_111 t0 S = some (r, S9) → jw X 0 0 (moL D g S) [(0, .ref (g 0))] 111 [.int (ii t0)] := by
    intro t0 S hs
    rw [q_Mo_ask_111] at hs
    refine jr_istore [(6, .int (ii t0)), (0, .ref (g 0))] ok d_Mo_ask_111 (by rw [hN]; decide) rfl ?_
    refine jr_iload ok 0 d_Mo_ask_113 rfl ?_
    refine jr_wif_eq 122 ok rfl d_Mo_ask_115 (by decide) (fun c20 => ?_) (fun c20 => ?_)
    · replace hs := oq_pos c20 hs
      exact jr_lv [1, 0] rfl (B_122 t0 S hs)
    · replace hs := oq_neg c20 hs
      refine jr_aload_n ok 1 d_Mo_ask_118 rfl rfl ?_
      obtain ⟨r21, S21, hc21, hs⟩ := mb2_some hs
      refine jr_mV0 ok hR m_Mo_368 (c_Mo_keepTable (jx_l X) D g S  r21 S21 hc21) rfl rfl rfl rfl (Nat.le_of_ble_eq_true rfl) ⟨Nat.le_of_ble_eq_true rfl, Nat.le_of_ble_eq_true rfl⟩ ⟨Nat.zero_le _, Nat.zero_le _⟩ d_Mo_ask_119 ?_
      exact jr_lv [1, 0] rfl (B_122 t0 S21 hs)
  have B_110 : ∀ (S : MS), q_Mo_ask_110 S = some (r, S9) → jw X 0 0 (moL D g S) [(0, .ref (g 0))] 110 [] := by
    intro S hs
    rw [q_Mo_ask_110] at hs
    refine jr_iconst ok d_Mo_ask_110 ?_
    exact jr_lv [0] rfl (B_111 0 S hs)
  have B_47 : ∀ (v1 : Int64) (v3 : Int64) (v5 : Int) (t0 : Int) (S : MS), q_Mo_ask_47 v1 v3 v5 t0 S = some (r, S9) → jw X 0 0 (moL D g S) [(0, .ref (g 0)), (1, .long v1), (3, .long v3), (5, .int (ii v5))] 47 [.int (ii t0), .ref (g 0)] := by
    intro v1 v3 v5 t0 S hs
    rw [q_Mo_ask_47] at hs
    refine jr_put (moL D g (MS.w_m_code S t0)) ok 0 f_Mo_101 rfl rfl rfl (Nat.le_of_ble_eq_true rfl) rfl d_Mo_ask_47 ?_
    refine jr_aload_n ok 0 d_Mo_ask_50 rfl rfl ?_
    refine jr_get (v := .int (ii t0)) ok 0 f_Mo_101 rfl rfl d_Mo_ask_51 ?_
    refine jr_wif_le 59 ok rfl d_Mo_ask_54 (by decide) (fun c15 => ?_) (fun c15 => ?_)
    · replace hs := oq_pos c15 hs
      refine jr_aload_n ok 0 d_Mo_ask_59 rfl rfl ?_
      refine jr_iconst ok d_Mo_ask_60 ?_
      refine jr_put (moL D g (MS.w_m_faultCode (MS.w_m_code S t0) 0)) ok 0 f_Mo_108 rfl rfl rfl (Nat.le_of_ble_eq_true rfl) rfl d_Mo_ask_61 ?_
      refine jr_aload_n ok 0 d_Mo_ask_64 rfl rfl ?_
      refine jr_iconst ok d_Mo_ask_65 ?_
      refine jr_put (moL D g (MS.w_m_faultPlace (MS.w_m_faultCode (MS.w_m_code S t0) 0) 0)) ok 0 f_Mo_111 rfl rfl rfl (Nat.le_of_ble_eq_true rfl) rfl d_Mo_ask_66 ?_
      refine jr_aload_n ok 0 d_Mo_ask_69 rfl rfl ?_
      refine jr_lload_n ok 1 d_Mo_ask_70 rfl rfl ?_
      refine jr_put (moL D g (MS.w_m_windowsFrom (MS.w_m_faultPlace (MS.w_m_faultCode (MS.w_m_code S t0) 0) 0) v1)) ok 0 f_Mo_263 rfl rfl rfl (Nat.le_of_ble_eq_true rfl) rfl d_Mo_ask_71 ?_
      refine jr_aload_n ok 0 d_Mo_ask_74 rfl rfl ?_
      refine jr_lload_n ok 2 d_Mo_ask_75 rfl rfl ?_
      refine jr_put (moL D g (MS.w_m_width (MS.w_m_windowsFrom (MS.w_m_faultPlace (MS.w_m_faultCode (MS.w_m_code S t0) 0) 0) v1) v3)) ok 0 f_Mo_266 rfl rfl rfl (Nat.le_of_ble_eq_true rfl) rfl d_Mo_ask_76 ?_
      refine jr_aload_n ok 0 d_Mo_ask_79 rfl rfl ?_
      refine jr_iload ok 3 d_Mo_ask_80 rfl ?_
      refine jr_put (moL D g (MS.w_m_windows (MS.w_m_width (MS.w_m_windowsFrom (MS.w_m_faultPlace (MS.w_m_faultCode (MS.w_m_code S t0) 0) 0) v1) v3) v5)) ok 0 f_Mo_234 rfl rfl rfl (Nat.le_of_ble_eq_true rfl) rfl d_Mo_ask_82 ?_
      refine jr_aload_n ok 0 d_Mo_ask_85 rfl rfl ?_
      refine jr_iconst ok d_Mo_ask_86 ?_
      refine jr_put (moL D g (MS.w_m_isTable (MS.w_m_windows (MS.w_m_width (MS.w_m_windowsFrom (MS.w_m_faultPlace (MS.w_m_faultCode (MS.w_m_code S t0) 0) 0) v1) v3) v5) 0)) ok 0 f_Mo_352 rfl (by decide +kernel) rfl (Nat.le_of_ble_eq_true rfl) rfl d_Mo_ask_87 ?_
      refine jr_aload_n ok 0 d_Mo_ask_90 rfl rfl ?_
      refine jr_iconst ok d_Mo_ask_91 ?_
      obtain ⟨r16, S16, hc16, hs⟩ := mb2_some hs
      refine jr_mV1 ok hR m_Mo_364 (c_Mo_question (jx_l X) D g (MS.w_m_isTable (MS.w_m_windows (MS.w_m_width (MS.w_m_windowsFrom (MS.w_m_faultPlace (MS.w_m_faultCode (MS.w_m_code S t0) 0) 0) v1) v3) v5) 0) 0 r16 S16 hc16) rfl rfl rfl rfl (Nat.le_of_ble_eq_true rfl) ⟨Nat.le_of_ble_eq_true rfl, Nat.le_of_ble_eq_true rfl⟩ ⟨Nat.zero_le _, Nat.zero_le _⟩ d_Mo_ask_92 ?_
      refine jr_wif_eq 110 ok rfl d_Mo_ask_95 (by decide) (fun c17 => ?_) (fun c17 => ?_)
      · replace hs := oq_pos c17 hs
        exact jr_lv [0] rfl (B_110 S16 hs)
      · replace hs := oq_neg c17 hs
        refine jr_aload_n ok 0 d_Mo_ask_98 rfl rfl ?_
        refine jr_iconst ok d_Mo_ask_99 ?_
        obtain ⟨r18, S18, hc18, hs⟩ := mb2_some hs
        refine jr_mV1 ok hR m_Mo_364 (c_Mo_question (jx_l X) D g S16 1 r18 S18 hc18) rfl rfl rfl rfl (Nat.le_of_ble_eq_true rfl) ⟨Nat.le_of_ble_eq_true rfl, Nat.le_of_ble_eq_true rfl⟩ ⟨Nat.zero_le _, Nat.zero_le _⟩ d_Mo_ask_100 ?_
        refine jr_wif_eq 110 ok rfl d_Mo_ask_103 (by decide) (fun c19 => ?_) (fun c19 => ?_)
        · replace hs := oq_pos c19 hs
          exact jr_lv [0] rfl (B_110 S18 hs)
        · replace hs := oq_neg c19 hs
          refine jr_iconst ok d_Mo_ask_106 ?_
          refine jr_goto 111 ok d_Mo_ask_107 (by decide) ?_
          exact jr_lv [0] rfl (B_111 1 S18 hs)
    · replace hs := oq_neg c15 hs
      refine jr_iconst ok d_Mo_ask_57 ?_
      exact jm_iret (Lf := moL D g) ok fin hs d_Mo_ask_58
  have B_42 : ∀ (v1 : Int64) (v3 : Int64) (v5 : Int) (S : MS), q_Mo_ask_42 v1 v3 v5 S = some (r, S9) → jw X 0 0 (moL D g S) [(0, .ref (g 0)), (1, .long v1), (3, .long v3), (5, .int (ii v5))] 42 [.ref (g 0)] := by
    intro v1 v3 v5 S hs
    rw [q_Mo_ask_42] at hs
    refine jr_iconst ok d_Mo_ask_42 ?_
    refine jr_goto 47 ok d_Mo_ask_43 (by decide) ?_
    exact jr_lv [0, 1, 2, 3] rfl (B_47 v1 v3 v5 1 S hs)
  show jw X 0 0 (moL D g S) [(0, .ref (g 0)), (1, .long v1), (3, .long v3), (5, .int (ii v5))] 0 []
  rw [s_Mo_ask] at hs
  refine jr_aload_n ok 0 d_Mo_ask_0 rfl rfl ?_
  refine jr_lload_n ok 1 d_Mo_ask_1 rfl rfl ?_
  refine jr_lconst (z := 0) ok d_Mo_ask_2 (by decide +kernel) ?_
  refine jr_lif_lt 42 ok rfl (ll_toInt ⟨by decide, by decide⟩) d_Mo_ask_3 d_Mo_ask_4 (by decide) (fun c23 => ?_) (fun c23 => ?_)
  · replace hs := oq_pos c23 hs
    exact jr_lv [0, 1, 2, 3] rfl (B_42 v1 v3 v5 S hs)
  · replace hs := oq_neg c23 hs
    refine jr_lload_n ok 1 d_Mo_ask_7 rfl rfl ?_
    refine jr_ldc2 (z := 1099511627775) ok w_1591 (by decide +kernel) d_Mo_ask_8 ?_
    refine jr_lif_gt 42 ok rfl (ll_toInt ⟨by decide, by decide⟩) d_Mo_ask_11 d_Mo_ask_12 (by decide) (fun c24 => ?_) (fun c24 => ?_)
    · replace hs := oq_pos c24 hs
      exact jr_lv [0, 1, 2, 3] rfl (B_42 v1 v3 v5 S hs)
    · replace hs := oq_neg c24 hs
      refine jr_lload_n ok 2 d_Mo_ask_15 rfl rfl ?_
      refine jr_lconst (z := 1) ok d_Mo_ask_16 (by decide +kernel) ?_
      refine jr_lif_lt 42 ok rfl (ll_toInt ⟨by decide, by decide⟩) d_Mo_ask_17 d_Mo_ask_18 (by decide) (fun c25 => ?_) (fun c25 => ?_)
      · replace hs := oq_pos c25 hs
        exact jr_lv [0, 1, 2, 3] rfl (B_42 v1 v3 v5 S hs)
      · replace hs := oq_neg c25 hs
        refine jr_lload_n ok 2 d_Mo_ask_21 rfl rfl ?_
        refine jr_ldc2 (z := 1099511627775) ok w_1591 (by decide +kernel) d_Mo_ask_22 ?_
        refine jr_lif_gt 42 ok rfl (ll_toInt ⟨by decide, by decide⟩) d_Mo_ask_25 d_Mo_ask_26 (by decide) (fun c26 => ?_) (fun c26 => ?_)
        · replace hs := oq_pos c26 hs
          exact jr_lv [0, 1, 2, 3] rfl (B_42 v1 v3 v5 S hs)
        · replace hs := oq_neg c26 hs
          refine jr_iload ok 3 d_Mo_ask_29 rfl ?_
          refine jr_iconst ok d_Mo_ask_31 ?_
          refine jr_wicmp_lt 42 ok rfl (show w32 1 = 1 by decide) d_Mo_ask_32 (by decide) (fun c27 => ?_) (fun c27 => ?_)
          · replace hs := oq_pos c27 hs
            exact jr_lv [0, 1, 2, 3] rfl (B_42 v1 v3 v5 S hs)
          · replace hs := oq_neg c27 hs
            refine jr_iload ok 3 d_Mo_ask_35 rfl ?_
            refine jr_bipush ok d_Mo_ask_37 (by decide +kernel) ?_
            refine jr_wicmp_le 46 ok rfl (show w32 64 = 64 by decide) d_Mo_ask_39 (by decide) (fun c28 => ?_) (fun c28 => ?_)
            · replace hs := oq_pos c28 hs
              refine jr_iconst ok d_Mo_ask_46 ?_
              exact jr_lv [0, 1, 2, 3] rfl (B_47 v1 v3 v5 0 S hs)
            · replace hs := oq_neg c28 hs
              exact jr_lv [0, 1, 2, 3] rfl (B_42 v1 v3 v5 S hs)
