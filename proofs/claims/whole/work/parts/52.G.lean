def q_Lx_spells_30 : Nat → CW → Nat → Int → WS → Option (Int × CW × WS)
  | 0, _, _, _, _ => none
  | n + 1, c, v1, v2, S => if w32 (sLen v1) ≤ w32 v2 then some (1, c, S) else mb2 (s_Tp_byteAt c S (S.lx_at + v2)) (fun r12 S12 => if (0 : Int) ≤ v2 ∧ v2 < sLen v1 then if w32 r12 = w32 (sCh v1 v2) then (q_Lx_spells_30 n) c v1 (v2 + 1) S12 else some (0, c, S12) else none)

def s_Lx_spells (C0 : CW) (S : WS) (v1 : Nat) : Option (Int × CW × WS) := if w32 S.lx_kind = 303 then if w32 (S.lx_behind - S.lx_at) = w32 (sLen v1) then q_Lx_spells_30 fU C0 v1 0 S else some (0, C0, S) else some (0, C0, S)
set_option maxHeartbeats 4000000 in
set_option maxRecDepth 100000 in
theorem r_Lx_spells (l : Launch) (D : jd_T) (g : Nat → Nat) (A0 : AW) (C0 : CW) (S : WS) (v1 : Nat) (r : Int) (c9 : CW) (S9 : WS) (hv1 : v1 < 8) (hs : s_Lx_spells C0 S v1 = some (r, c9, S9)) : jgI_C l D y_Lx_spells b_Lx_spells 3 (some .boolean) { frames := 4, cells := C0.bc, slots := C0.bs, locals := 100 } [.ref (g 11), .ref (D.1.2 100 v1)] (wtL D g A0 C0 S) (fun A : AW => (.returned (some (.int (ii r))), (c9.bc ≤ C0.bc ∧ c9.bs ≤ C0.bs) ∧ aS A0 A, wtL D g A c9 S9, C0.bc - c9.bc, C0.bs - c9.bs)) := by
  refine jgI_of rfl (Nat.le_of_ble_eq_true rfl) ?_
  intro X hl hR hN ok hI hnm fin
  subst hl
  have hcc : (C0.bc ≤ C0.bc ∧ C0.bs ≤ C0.bs) ∧ aS A0 A0 := ⟨⟨Nat.le_refl _, Nat.le_refl _⟩, fun _ _ _ => rfl⟩
  have B_30 : ∀ (n30 : Nat), ∀ (A : AW) (c : CW) (v1 : Nat) (v2 : Int) (S : WS), (c.bc ≤ C0.bc ∧ c.bs ≤ C0.bs) ∧ aS A0 A → v1 < 8 → q_Lx_spells_30 n30 c v1 v2 S = some (r, c9, S9) → jw X (C0.bc - c.bc) (C0.bs - c.bs) (wtL D g A c S) [(0, .ref (g 11)), (1, .ref (D.1.2 100 v1)), (2, .int (ii v2))] 30 [] := by
    intro n30
    induction n30 with
    | zero =>
      intro A c v1 v2 S hcc hv1 hs
      rw [q_Lx_spells_30] at hs; cases hs
    | succ n30 ih30 =>
      intro A c v1 v2 S hcc hv1 hs
      rw [q_Lx_spells_30] at hs
      refine jr_iload_n ok 2 d_Lx_spells_30 rfl rfl ?_
      refine jr_aload_n ok 1 d_Lx_spells_31 rfl rfl ?_
      refine jq_strlen ok hI hR m_Lx_73 hv1 (Nat.le_of_ble_eq_true rfl) ⟨Nat.le_of_ble_eq_true rfl, Nat.le_of_ble_eq_true rfl⟩ ⟨Nat.sub_le _ _, Nat.sub_le _ _⟩ d_Lx_spells_32 ?_
      refine jr_wicmp_ge 67 ok rfl rfl d_Lx_spells_35 (by decide) (fun c11 => ?_) (fun c11 => ?_)
      · replace hs := oq_pos c11 hs
        refine jr_iconst ok d_Lx_spells_67 ?_
        exact jh_zret (ψ := aS A0) (Lf := wtL D g) (bc := CW.bc) (bs := CW.bs) A ok (by decide +kernel) fin hcc hs d_Lx_spells_68
      · replace hs := oq_neg c11 hs
        refine jr_aload_n ok 0 d_Lx_spells_38 rfl rfl ?_
        refine jr_get (v := .ref (g 1)) ok 14 f_Lx_9 rfl rfl d_Lx_spells_39 ?_
        refine jr_aload_n ok 0 d_Lx_spells_42 rfl rfl ?_
        refine jr_get (v := .int (ii S.lx_at)) ok 14 f_Lx_19 rfl rfl d_Lx_spells_43 ?_
        refine jr_iload_n ok 2 d_Lx_spells_46 rfl rfl ?_
        refine jr_iadd ok d_Lx_spells_47 ?_
        obtain ⟨r12, S12, hc12, hs⟩ := mb2_some hs
        refine jq_cV1 ok hR m_Lx_38 (r_Tp_byteAt (jx_l X) D g A c S (S.lx_at + v2) r12 S12  hc12) (sg_atk 1 rfl) rfl rfl rfl (Nat.le_of_ble_eq_true rfl) ⟨Nat.le_of_ble_eq_true rfl, Nat.le_of_ble_eq_true rfl⟩ ⟨Nat.sub_le _ _, Nat.sub_le _ _⟩ d_Lx_spells_48 ?_
        show jw X (C0.bc - c.bc) (C0.bs - c.bs) (wtL D g A c S12) [(0, .ref (g 11)), (1, .ref (D.1.2 100 v1)), (2, .int (ii v2))] 51 [.int (ii r12)]
        refine jr_aload_n ok 1 d_Lx_spells_51 rfl rfl ?_
        refine jr_iload_n ok 2 d_Lx_spells_52 rfl rfl ?_
        obtain ⟨hb14, hs⟩ := oq_if hs
        refine jq_strat ok hI hR m_Lx_78 hv1 hb14.1 hb14.2 (Nat.le_of_ble_eq_true rfl) ⟨Nat.le_of_ble_eq_true rfl, Nat.le_of_ble_eq_true rfl⟩ ⟨Nat.sub_le _ _, Nat.sub_le _ _⟩ d_Lx_spells_53 ?_
        refine jr_wicmp_eq 61 ok rfl rfl d_Lx_spells_56 (by decide) (fun c15 => ?_) (fun c15 => ?_)
        · replace hs := oq_pos c15 hs
          refine jr_iinc [(2, .int (ii (v2 + 1))), (0, .ref (g 11)), (1, .ref (D.1.2 100 v1))] 2 ok d_Lx_spells_61 rfl (by rw [hN]; decide) rfl ?_
          refine jr_goto 30 ok d_Lx_spells_64 (by decide) ?_
          exact jr_lv [1, 2, 0] rfl (ih30 A c v1 (v2 + 1) S12 hcc hv1 hs)
        · replace hs := oq_neg c15 hs
          refine jr_iconst ok d_Lx_spells_59 ?_
          exact jh_zret (ψ := aS A0) (Lf := wtL D g) (bc := CW.bc) (bs := CW.bs) A ok (by decide +kernel) fin hcc hs d_Lx_spells_60
  refine jr_widen (cs' := C0.bc - C0.bc) (sl' := C0.bs - C0.bs) (Nat.zero_le _) (Nat.zero_le _) ?_
  show jw X (C0.bc - C0.bc) (C0.bs - C0.bs) (wtL D g A0 C0 S) [(0, .ref (g 11)), (1, .ref (D.1.2 100 v1))] 0 []
  rw [s_Lx_spells] at hs
  refine jr_aload_n ok 0 d_Lx_spells_0 rfl rfl ?_
  refine jr_get (v := .int (ii S.lx_kind)) ok 14 f_Lx_15 rfl rfl d_Lx_spells_1 ?_
  refine jr_sipush ok d_Lx_spells_4 (by decide +kernel) ?_
  refine jr_wicmp_ne 26 ok rfl (show w32 303 = 303 by decide) d_Lx_spells_7 (by decide) (fun c16 => ?_) (fun c16 => ?_)
  · replace hs := oq_neg c16 hs
    refine jr_iconst ok d_Lx_spells_26 ?_
    exact jh_zret (ψ := aS A0) (Lf := wtL D g) (bc := CW.bc) (bs := CW.bs) A0 ok (by decide +kernel) fin hcc hs d_Lx_spells_27
  · replace hs := oq_pos c16 hs
    refine jr_aload_n ok 0 d_Lx_spells_10 rfl rfl ?_
    refine jr_get (v := .int (ii S.lx_behind)) ok 14 f_Lx_22 rfl rfl d_Lx_spells_11 ?_
    refine jr_aload_n ok 0 d_Lx_spells_14 rfl rfl ?_
    refine jr_get (v := .int (ii S.lx_at)) ok 14 f_Lx_19 rfl rfl d_Lx_spells_15 ?_
    refine jr_isub ok d_Lx_spells_18 ?_
    refine jr_aload_n ok 1 d_Lx_spells_19 rfl rfl ?_
    refine jq_strlen ok hI hR m_Lx_73 hv1 (Nat.le_of_ble_eq_true rfl) ⟨Nat.le_of_ble_eq_true rfl, Nat.le_of_ble_eq_true rfl⟩ ⟨Nat.sub_le _ _, Nat.sub_le _ _⟩ d_Lx_spells_20 ?_
    refine jr_wicmp_eq 28 ok rfl rfl d_Lx_spells_23 (by decide) (fun c18 => ?_) (fun c18 => ?_)
    · replace hs := oq_pos c18 hs
      refine jr_iconst ok d_Lx_spells_28 ?_
      refine jr_istore_n [(2, .int (ii 0)), (0, .ref (g 11)), (1, .ref (D.1.2 100 v1))] ok d_Lx_spells_29 rfl (by rw [hN]; decide) rfl ?_
      exact jr_lv [1, 2, 0] rfl (B_30 fU A0 C0 v1 0 S hcc hv1 hs)
    · replace hs := oq_neg c18 hs
      refine jr_iconst ok d_Lx_spells_26 ?_
      exact jh_zret (ψ := aS A0) (Lf := wtL D g) (bc := CW.bc) (bs := CW.bs) A0 ok (by decide +kernel) fin hcc hs d_Lx_spells_27

def q_Pg_add_30 (c : CW) (v1 : Int) (S : WS) : Option (Unit × CW × WS) := if (0 : Int) ≤ S.pg_size ∧ S.pg_size < (c.oc : Int) then some ((), c, WS.w_pg_size (WS.w_pg_orders S (aU S.pg_orders S.pg_size v1)) (S.pg_size + 1)) else none

def s_Pg_add (C0 : CW) (S : WS) (v1 : Int) : Option (Unit × CW × WS) := if w32 S.pg_size < w32 C0.oc then q_Pg_add_30 C0 v1 S else if ((0 : Int) ≤ C0.oc ∧ C0.oc ≤ 2147483647) ∧ ((0 : Int) ≤ (2 * C0.oc) ∧ (2 * C0.oc) ≤ 67108864) ∧ C0.oc ≠ (2 * C0.oc) then if 1 ≤ C0.bc ∧ ((2 * C0.oc)).toNat ≤ C0.bs then q_Pg_add_30 (CW.w_oc (CW.w_bs (CW.w_bc C0 (C0.bc - 1)) (C0.bs - ((2 * C0.oc)).toNat)) (2 * C0.oc)) v1 (WS.w_pg_orders S (aK S.pg_orders 0 C0.oc (2 * C0.oc))) else none else none
set_option maxHeartbeats 4000000 in
set_option maxRecDepth 100000 in
theorem r_Pg_add (l : Launch) (D : jd_T) (g : Nat → Nat) (A0 : AW) (C0 : CW) (S : WS) (v1 : Int) (r : Unit) (c9 : CW) (S9 : WS)  (hs : s_Pg_add C0 S v1 = some (r, c9, S9)) : jgI_C l D y_Pg_add b_Pg_add 2 none { frames := 2, cells := C0.bc, slots := C0.bs, locals := 62 } [.ref (g 9), .int (ii v1)] (wtL D g A0 C0 S) (fun A : AW => (.returned (none), (c9.bc ≤ C0.bc ∧ c9.bs ≤ C0.bs) ∧ aS A0 A, wtL D g A c9 S9, C0.bc - c9.bc, C0.bs - c9.bs)) := by
  refine jgI_of rfl (Nat.le_of_ble_eq_true rfl) ?_
  intro X hl hR hN ok hI hnm fin
  subst hl
  have hcc : (C0.bc ≤ C0.bc ∧ C0.bs ≤ C0.bs) ∧ aS A0 A0 := ⟨⟨Nat.le_refl _, Nat.le_refl _⟩, fun _ _ _ => rfl⟩
  have B_30 : ∀ (A : AW) (c : CW) (v1 : Int) (S : WS), (c.bc ≤ C0.bc ∧ c.bs ≤ C0.bs) ∧ aS A0 A → q_Pg_add_30 c v1 S = some (r, c9, S9) → jw X (C0.bc - c.bc) (C0.bs - c.bs) (wtL D g A c S) [(0, .ref (g 9)), (1, .int (ii v1))] 30 [] := by
    intro A c v1 S hcc hs
    rw [q_Pg_add_30] at hs
    refine jr_aload_n ok 0 d_Pg_add_30 rfl rfl ?_
    refine jr_get (v := .ref A.oa) ok 11 f_Pg_9 rfl rfl d_Pg_add_31 ?_
    refine jr_aload_n ok 0 d_Pg_add_34 rfl rfl ?_
    refine jr_get (v := .int (ii S.pg_size)) ok 11 f_Pg_15 rfl rfl d_Pg_add_35 ?_
    refine jr_iload_n ok 1 d_Pg_add_38 rfl rfl ?_
    obtain ⟨hb7, hs⟩ := oq_if hs
    refine jr_iast (wtL D g A c (WS.w_pg_orders S (aU S.pg_orders S.pg_size v1))) ok 12 rfl rfl hb7.1 hb7.2  rfl d_Pg_add_39 ?_
    refine jr_aload_n ok 0 d_Pg_add_40 rfl rfl ?_
    refine jr_dup rfl ok d_Pg_add_41 ?_
    refine jr_get (v := .int (ii S.pg_size)) ok 11 f_Pg_15 rfl rfl d_Pg_add_42 ?_
    refine jr_iconst ok d_Pg_add_45 ?_
    refine jr_iadd ok d_Pg_add_46 ?_
    refine jr_put (wtL D g A c (WS.w_pg_size (WS.w_pg_orders S (aU S.pg_orders S.pg_size v1)) (S.pg_size + 1))) ok 11 f_Pg_15 rfl rfl rfl (Nat.le_of_ble_eq_true rfl) rfl d_Pg_add_47 ?_
    exact jh_vret (ψ := aS A0) (Lf := wtL D g) (bc := CW.bc) (bs := CW.bs) A ok fin hcc hs d_Pg_add_50
  refine jr_widen (cs' := C0.bc - C0.bc) (sl' := C0.bs - C0.bs) (Nat.zero_le _) (Nat.zero_le _) ?_
  show jw X (C0.bc - C0.bc) (C0.bs - C0.bs) (wtL D g A0 C0 S) [(0, .ref (g 9)), (1, .int (ii v1))] 0 []
  rw [s_Pg_add] at hs
  refine jr_aload_n ok 0 d_Pg_add_0 rfl rfl ?_
  refine jr_get (v := .int (ii S.pg_size)) ok 11 f_Pg_15 rfl rfl d_Pg_add_1 ?_
  refine jr_aload_n ok 0 d_Pg_add_4 rfl rfl ?_
  refine jr_get (v := .ref A0.oa) ok 11 f_Pg_9 rfl rfl d_Pg_add_5 ?_
  refine jr_alen_i ok 12 rfl rfl d_Pg_add_8 ?_
  refine jr_wicmp_lt 30 ok rfl rfl d_Pg_add_9 (by decide) (fun c8 => ?_) (fun c8 => ?_)
  · replace hs := oq_pos c8 hs
    exact jr_lv [0, 1] rfl (B_30 A0 C0 v1 S hcc hs)
  · replace hs := oq_neg c8 hs
    refine jr_aload_n ok 0 d_Pg_add_12 rfl rfl ?_
    refine jr_aload_n ok 0 d_Pg_add_13 rfl rfl ?_
    refine jr_get (v := .ref A0.oa) ok 11 f_Pg_9 rfl rfl d_Pg_add_14 ?_
    refine jr_iconst ok d_Pg_add_17 ?_
    refine jr_aload_n ok 0 d_Pg_add_18 rfl rfl ?_
    refine jr_get (v := .ref A0.oa) ok 11 f_Pg_9 rfl rfl d_Pg_add_19 ?_
    refine jr_alen_i ok 12 rfl rfl d_Pg_add_22 ?_
    refine jr_imul ok d_Pg_add_23 ?_
    obtain ⟨hb9, hs⟩ := oq_if hs
    obtain ⟨hb10, hs⟩ := oq_if hs
    refine jq_copyG (New := fun q => ai D 0 q (2 * C0.oc) (aK S.pg_orders 0 C0.oc (2 * C0.oc))) ok hR hcc.1 hb10 m_Pg_19 (c_cpI (jx_l X) D A0.oa C0.oc (2 * C0.oc) S.pg_orders hb9) (sg_atk 12 rfl) rfl rfl rfl (Nat.le_of_ble_eq_true rfl) ⟨Nat.le_of_ble_eq_true rfl, Nat.le_of_ble_eq_true rfl⟩ d_Pg_add_24 (fun q11 => ?_)
    have hcc12 : ((CW.w_bs (CW.w_bc C0 (C0.bc - 1)) (C0.bs - ((2 * C0.oc)).toNat)).bc ≤ C0.bc ∧ (CW.w_bs (CW.w_bc C0 (C0.bc - 1)) (C0.bs - ((2 * C0.oc)).toNat)).bs ≤ C0.bs) ∧ aS A0 A0 := ⟨⟨Nat.le_trans (Nat.sub_le _ _) hcc.1.1, Nat.le_trans (Nat.sub_le _ _) hcc.1.2⟩, hcc.2⟩
    show jw X (C0.bc - (CW.w_bs (CW.w_bc C0 (C0.bc - 1)) (C0.bs - ((2 * C0.oc)).toNat)).bc) (C0.bs - (CW.w_bs (CW.w_bc C0 (C0.bc - 1)) (C0.bs - ((2 * C0.oc)).toNat)).bs) ((wtL D g A0 (CW.w_bs (CW.w_bc C0 (C0.bc - 1)) (C0.bs - ((2 * C0.oc)).toNat)) S) ++ [ai D 0 q11 (2 * C0.oc) (aK S.pg_orders 0 C0.oc (2 * C0.oc))]) [(0, .ref (g 9)), (1, .int (ii v1))] 27 [.ref q11, .ref (g 9)]
    refine jq_putA (wtL D g (AW.w_oa A0 q11) (CW.w_oc (CW.w_bs (CW.w_bc C0 (C0.bc - 1)) (C0.bs - ((2 * C0.oc)).toNat)) (2 * C0.oc)) (WS.w_pg_orders S (aK S.pg_orders 0 C0.oc (2 * C0.oc)))) 11 12 ok f_Pg_9 rfl rfl rfl rfl (Nat.le_of_ble_eq_true rfl) rfl d_Pg_add_27 ?_
    exact jr_lv [0, 1] rfl (B_30 (AW.w_oa A0 q11) (CW.w_oc (CW.w_bs (CW.w_bc C0 (C0.bc - 1)) (C0.bs - ((2 * C0.oc)).toNat)) (2 * C0.oc)) v1 (WS.w_pg_orders S (aK S.pg_orders 0 C0.oc (2 * C0.oc))) hcc12 hs)

def q_Tp_put_35 : Nat → CW → Int → Int → WS → Option (Unit × CW × WS)
  | 0, _, _, _, _ => none
  | n + 1, c, v1, v2, S => if w32 v2 < 0 then some ((), c, S) else if (0 : Int) ≤ S.tp_size ∧ S.tp_size < (c.tc : Int) then (q_Tp_put_35 n) c v1 (v2 + (-8)) (WS.w_tp_size (WS.w_tp_bytes S (aU S.tp_bytes S.tp_size (sb (gShr v1 v2)))) (S.tp_size + 1)) else none

def q_Tp_put_32 (c : CW) (v1 : Int) (S : WS) : Option (Unit × CW × WS) := q_Tp_put_35 fU c v1 24 S

def s_Tp_put (C0 : CW) (S : WS) (v1 : Int) : Option (Unit × CW × WS) := if w32 S.tp_size ≤ w32 (C0.tc - 4) then q_Tp_put_32 C0 v1 S else if (((0 : Int) ≤ C0.tc ∧ C0.tc ≤ 2147483647) ∧ ((0 : Int) ≤ (2 * C0.tc) ∧ (2 * C0.tc) ≤ 67108864) ∧ C0.tc ≠ (2 * C0.tc)) ∧ bChk S.tp_bytes (C0.tc).toNat = true then if 1 ≤ C0.bc ∧ ((2 * C0.tc)).toNat ≤ C0.bs then q_Tp_put_32 (CW.w_tc (CW.w_bs (CW.w_bc C0 (C0.bc - 1)) (C0.bs - ((2 * C0.tc)).toNat)) (2 * C0.tc)) v1 (WS.w_tp_bytes S (aK S.tp_bytes 0 C0.tc (2 * C0.tc))) else none else none
set_option maxHeartbeats 4000000 in
set_option maxRecDepth 100000 in
theorem r_Tp_put (l : Launch) (D : jd_T) (g : Nat → Nat) (A0 : AW) (C0 : CW) (S : WS) (v1 : Int) (r : Unit) (c9 : CW) (S9 : WS)  (hs : s_Tp_put C0 S v1 = some (r, c9, S9)) : jgI_C l D y_Tp_put b_Tp_put 3 none { frames := 2, cells := C0.bc, slots := C0.bs, locals := 62 } [.ref (g 1), .int (ii v1)] (wtL D g A0 C0 S) (fun A : AW => (.returned (none), (c9.bc ≤ C0.bc ∧ c9.bs ≤ C0.bs) ∧ aS A0 A, wtL D g A c9 S9, C0.bc - c9.bc, C0.bs - c9.bs)) := by
  refine jgI_of rfl (Nat.le_of_ble_eq_true rfl) ?_
  intro X hl hR hN ok hI hnm fin
  subst hl
  have hcc : (C0.bc ≤ C0.bc ∧ C0.bs ≤ C0.bs) ∧ aS A0 A0 := ⟨⟨Nat.le_refl _, Nat.le_refl _⟩, fun _ _ _ => rfl⟩
  have B_35 : ∀ (n35 : Nat), ∀ (A : AW) (c : CW) (v1 : Int) (v2 : Int) (S : WS), (c.bc ≤ C0.bc ∧ c.bs ≤ C0.bs) ∧ aS A0 A → q_Tp_put_35 n35 c v1 v2 S = some (r, c9, S9) → jw X (C0.bc - c.bc) (C0.bs - c.bs) (wtL D g A c S) [(0, .ref (g 1)), (1, .int (ii v1)), (2, .int (ii v2))] 35 [] := by
    intro n35
    induction n35 with
    | zero =>
      intro A c v1 v2 S hcc hs
      rw [q_Tp_put_35] at hs; cases hs
    | succ n35 ih35 =>
      intro A c v1 v2 S hcc hs
      rw [q_Tp_put_35] at hs
      refine jr_iload_n ok 2 d_Tp_put_35 rfl rfl ?_
      refine jr_wif_lt 68 ok rfl d_Tp_put_36 (by decide) (fun c8 => ?_) (fun c8 => ?_)
      · replace hs := oq_pos c8 hs
        exact jh_vret (ψ := aS A0) (Lf := wtL D g) (bc := CW.bc) (bs := CW.bs) A ok fin hcc hs d_Tp_put_68
      · replace hs := oq_neg c8 hs
        refine jr_aload_n ok 0 d_Tp_put_39 rfl rfl ?_
        refine jr_get (v := .ref A.ta) ok 1 f_Tp_9 rfl rfl d_Tp_put_40 ?_
        refine jr_aload_n ok 0 d_Tp_put_43 rfl rfl ?_
        refine jr_get (v := .int (ii S.tp_size)) ok 1 f_Tp_15 rfl rfl d_Tp_put_44 ?_
        refine jr_iload_n ok 1 d_Tp_put_47 rfl rfl ?_
        refine jr_iload_n ok 2 d_Tp_put_48 rfl rfl ?_
        refine jr_ishr (z := gShr v1 v2) ok d_Tp_put_49 (ii_of _).symm ?_
        refine jr_i2b (z := sb (gShr v1 v2)) ok d_Tp_put_50 (ii_i2b _) ?_
        obtain ⟨hb9, hs⟩ := oq_if hs
        refine jr_bast (wtL D g A c (WS.w_tp_bytes S (aU S.tp_bytes S.tp_size (sb (gShr v1 v2))))) ok 2 rfl rfl hb9.1 hb9.2 (nar_b (sb_R _)) rfl d_Tp_put_51 ?_
        refine jr_aload_n ok 0 d_Tp_put_52 rfl rfl ?_
        refine jr_dup rfl ok d_Tp_put_53 ?_
        refine jr_get (v := .int (ii S.tp_size)) ok 1 f_Tp_15 rfl rfl d_Tp_put_54 ?_
        refine jr_iconst ok d_Tp_put_57 ?_
        refine jr_iadd ok d_Tp_put_58 ?_
        refine jr_put (wtL D g A c (WS.w_tp_size (WS.w_tp_bytes S (aU S.tp_bytes S.tp_size (sb (gShr v1 v2)))) (S.tp_size + 1))) ok 1 f_Tp_15 rfl rfl rfl (Nat.le_of_ble_eq_true rfl) rfl d_Tp_put_59 ?_
        refine jr_iinc [(2, .int (ii (v2 + (-8)))), (0, .ref (g 1)), (1, .int (ii v1))] 2 ok d_Tp_put_62 rfl (by rw [hN]; decide) rfl ?_
        refine jr_goto 35 ok d_Tp_put_65 (by decide) ?_
        exact jr_lv [1, 2, 0] rfl (ih35 A c v1 (v2 + (-8)) (WS.w_tp_size (WS.w_tp_bytes S (aU S.tp_bytes S.tp_size (sb (gShr v1 v2)))) (S.tp_size + 1)) hcc hs)
  have B_32 : ∀ (A : AW) (c : CW) (v1 : Int) (S : WS), (c.bc ≤ C0.bc ∧ c.bs ≤ C0.bs) ∧ aS A0 A → q_Tp_put_32 c v1 S = some (r, c9, S9) → jw X (C0.bc - c.bc) (C0.bs - c.bs) (wtL D g A c S) [(0, .ref (g 1)), (1, .int (ii v1))] 32 [] := by
    intro A c v1 S hcc hs
    rw [q_Tp_put_32] at hs
    refine jr_bipush ok d_Tp_put_32 (by decide +kernel) ?_
    refine jr_istore_n [(2, .int (ii 24)), (0, .ref (g 1)), (1, .int (ii v1))] ok d_Tp_put_34 rfl (by rw [hN]; decide) rfl ?_
    exact jr_lv [1, 2, 0] rfl (B_35 fU A c v1 24 S hcc hs)
  refine jr_widen (cs' := C0.bc - C0.bc) (sl' := C0.bs - C0.bs) (Nat.zero_le _) (Nat.zero_le _) ?_
  show jw X (C0.bc - C0.bc) (C0.bs - C0.bs) (wtL D g A0 C0 S) [(0, .ref (g 1)), (1, .int (ii v1))] 0 []
  rw [s_Tp_put] at hs
  refine jr_aload_n ok 0 d_Tp_put_0 rfl rfl ?_
  refine jr_get (v := .int (ii S.tp_size)) ok 1 f_Tp_15 rfl rfl d_Tp_put_1 ?_
  refine jr_aload_n ok 0 d_Tp_put_4 rfl rfl ?_
  refine jr_get (v := .ref A0.ta) ok 1 f_Tp_9 rfl rfl d_Tp_put_5 ?_
  refine jr_alen_i ok 2 rfl rfl d_Tp_put_8 ?_
  refine jr_iconst ok d_Tp_put_9 ?_
  refine jr_isub ok d_Tp_put_10 ?_
  refine jr_wicmp_le 32 ok rfl rfl d_Tp_put_11 (by decide) (fun c10 => ?_) (fun c10 => ?_)
  · replace hs := oq_pos c10 hs
    exact jr_lv [0, 1] rfl (B_32 A0 C0 v1 S hcc hs)
  · replace hs := oq_neg c10 hs
    refine jr_aload_n ok 0 d_Tp_put_14 rfl rfl ?_
    refine jr_aload_n ok 0 d_Tp_put_15 rfl rfl ?_
    refine jr_get (v := .ref A0.ta) ok 1 f_Tp_9 rfl rfl d_Tp_put_16 ?_
    refine jr_iconst ok d_Tp_put_19 ?_
    refine jr_aload_n ok 0 d_Tp_put_20 rfl rfl ?_
    refine jr_get (v := .ref A0.ta) ok 1 f_Tp_9 rfl rfl d_Tp_put_21 ?_
    refine jr_alen_i ok 2 rfl rfl d_Tp_put_24 ?_
    refine jr_imul ok d_Tp_put_25 ?_
    obtain ⟨hb11, hs⟩ := oq_if hs
    obtain ⟨hb12, hs⟩ := oq_if hs
    refine jq_copyG (New := fun q => ai D 1 q (2 * C0.tc) (aK S.tp_bytes 0 C0.tc (2 * C0.tc))) ok hR hcc.1 hb12 m_Tp_19 (c_cpB (jx_l X) D A0.ta C0.tc (2 * C0.tc) S.tp_bytes hb11) (sg_atk 2 rfl) rfl rfl rfl (Nat.le_of_ble_eq_true rfl) ⟨Nat.le_of_ble_eq_true rfl, Nat.le_of_ble_eq_true rfl⟩ d_Tp_put_26 (fun q13 => ?_)
    have hcc14 : ((CW.w_bs (CW.w_bc C0 (C0.bc - 1)) (C0.bs - ((2 * C0.tc)).toNat)).bc ≤ C0.bc ∧ (CW.w_bs (CW.w_bc C0 (C0.bc - 1)) (C0.bs - ((2 * C0.tc)).toNat)).bs ≤ C0.bs) ∧ aS A0 A0 := ⟨⟨Nat.le_trans (Nat.sub_le _ _) hcc.1.1, Nat.le_trans (Nat.sub_le _ _) hcc.1.2⟩, hcc.2⟩
    show jw X (C0.bc - (CW.w_bs (CW.w_bc C0 (C0.bc - 1)) (C0.bs - ((2 * C0.tc)).toNat)).bc) (C0.bs - (CW.w_bs (CW.w_bc C0 (C0.bc - 1)) (C0.bs - ((2 * C0.tc)).toNat)).bs) ((wtL D g A0 (CW.w_bs (CW.w_bc C0 (C0.bc - 1)) (C0.bs - ((2 * C0.tc)).toNat)) S) ++ [ai D 1 q13 (2 * C0.tc) (aK S.tp_bytes 0 C0.tc (2 * C0.tc))]) [(0, .ref (g 1)), (1, .int (ii v1))] 29 [.ref q13, .ref (g 1)]
    refine jq_putA (wtL D g (AW.w_ta A0 q13) (CW.w_tc (CW.w_bs (CW.w_bc C0 (C0.bc - 1)) (C0.bs - ((2 * C0.tc)).toNat)) (2 * C0.tc)) (WS.w_tp_bytes S (aK S.tp_bytes 0 C0.tc (2 * C0.tc)))) 1 2 ok f_Tp_9 rfl rfl rfl rfl (Nat.le_of_ble_eq_true rfl) rfl d_Tp_put_29 ?_
    exact jr_lv [0, 1] rfl (B_32 (AW.w_ta A0 q13) (CW.w_tc (CW.w_bs (CW.w_bc C0 (C0.bc - 1)) (C0.bs - ((2 * C0.tc)).toNat)) (2 * C0.tc)) v1 (WS.w_tp_bytes S (aK S.tp_bytes 0 C0.tc (2 * C0.tc))) hcc14 hs)

def q_Pt_add_62 (c : CW) (v0 : Nat) (v1 : Int64) (v3 : Int64) (S : WS) : Option (Unit × CW × WS) := if (0 : Int) ≤ (S.pt_size v0) ∧ (S.pt_size v0) < (c.pc v0 : Int) then if (0 : Int) ≤ (S.pt_size v0) ∧ (S.pt_size v0) < (c.pv v0 : Int) then some ((), c, WS.w_pt_lastTime (WS.w_pt_size (WS.w_pt_values (WS.w_pt_times S (nU S.pt_times v0 (aU (S.pt_times v0) (S.pt_size v0) v1))) (nU S.pt_values v0 (aU (S.pt_values v0) (S.pt_size v0) v3))) (nU S.pt_size v0 ((S.pt_size v0) + 1))) (nU S.pt_lastTime v0 v1)) else none else none

def q_Pt_add_24 (c : CW) (v0 : Nat) (v1 : Int64) (v3 : Int64) (S : WS) : Option (Unit × CW × WS) := if ((0 : Int) ≤ (c.pc v0) ∧ (c.pc v0) ≤ 2147483647) ∧ ((0 : Int) ≤ (max 4 (w32 (2 * (S.pt_size v0)))) ∧ (max 4 (w32 (2 * (S.pt_size v0)))) ≤ 67108864) ∧ (c.pc v0) ≠ (max 4 (w32 (2 * (S.pt_size v0)))) then if 1 ≤ c.bc ∧ ((max 4 (w32 (2 * (S.pt_size v0))))).toNat ≤ c.bs then if ((0 : Int) ≤ ((CW.w_pc (CW.w_bs (CW.w_bc c (c.bc - 1)) (c.bs - ((max 4 (w32 (2 * (S.pt_size v0))))).toNat)) (nU (CW.w_bs (CW.w_bc c (c.bc - 1)) (c.bs - ((max 4 (w32 (2 * (S.pt_size v0))))).toNat)).pc v0 (max 4 (w32 (2 * (S.pt_size v0)))))).pv v0) ∧ ((CW.w_pc (CW.w_bs (CW.w_bc c (c.bc - 1)) (c.bs - ((max 4 (w32 (2 * (S.pt_size v0))))).toNat)) (nU (CW.w_bs (CW.w_bc c (c.bc - 1)) (c.bs - ((max 4 (w32 (2 * (S.pt_size v0))))).toNat)).pc v0 (max 4 (w32 (2 * (S.pt_size v0)))))).pv v0) ≤ 2147483647) ∧ ((0 : Int) ≤ (max 4 (w32 (2 * (S.pt_size v0)))) ∧ (max 4 (w32 (2 * (S.pt_size v0)))) ≤ 67108864) ∧ ((CW.w_pc (CW.w_bs (CW.w_bc c (c.bc - 1)) (c.bs - ((max 4 (w32 (2 * (S.pt_size v0))))).toNat)) (nU (CW.w_bs (CW.w_bc c (c.bc - 1)) (c.bs - ((max 4 (w32 (2 * (S.pt_size v0))))).toNat)).pc v0 (max 4 (w32 (2 * (S.pt_size v0)))))).pv v0) ≠ (max 4 (w32 (2 * (S.pt_size v0)))) then if 1 ≤ (CW.w_pc (CW.w_bs (CW.w_bc c (c.bc - 1)) (c.bs - ((max 4 (w32 (2 * (S.pt_size v0))))).toNat)) (nU (CW.w_bs (CW.w_bc c (c.bc - 1)) (c.bs - ((max 4 (w32 (2 * (S.pt_size v0))))).toNat)).pc v0 (max 4 (w32 (2 * (S.pt_size v0)))))).bc ∧ ((max 4 (w32 (2 * (S.pt_size v0))))).toNat ≤ (CW.w_pc (CW.w_bs (CW.w_bc c (c.bc - 1)) (c.bs - ((max 4 (w32 (2 * (S.pt_size v0))))).toNat)) (nU (CW.w_bs (CW.w_bc c (c.bc - 1)) (c.bs - ((max 4 (w32 (2 * (S.pt_size v0))))).toNat)).pc v0 (max 4 (w32 (2 * (S.pt_size v0)))))).bs then q_Pt_add_62 (CW.w_pv (CW.w_bs (CW.w_bc (CW.w_pc (CW.w_bs (CW.w_bc c (c.bc - 1)) (c.bs - ((max 4 (w32 (2 * (S.pt_size v0))))).toNat)) (nU (CW.w_bs (CW.w_bc c (c.bc - 1)) (c.bs - ((max 4 (w32 (2 * (S.pt_size v0))))).toNat)).pc v0 (max 4 (w32 (2 * (S.pt_size v0)))))) ((CW.w_pc (CW.w_bs (CW.w_bc c (c.bc - 1)) (c.bs - ((max 4 (w32 (2 * (S.pt_size v0))))).toNat)) (nU (CW.w_bs (CW.w_bc c (c.bc - 1)) (c.bs - ((max 4 (w32 (2 * (S.pt_size v0))))).toNat)).pc v0 (max 4 (w32 (2 * (S.pt_size v0)))))).bc - 1)) ((CW.w_pc (CW.w_bs (CW.w_bc c (c.bc - 1)) (c.bs - ((max 4 (w32 (2 * (S.pt_size v0))))).toNat)) (nU (CW.w_bs (CW.w_bc c (c.bc - 1)) (c.bs - ((max 4 (w32 (2 * (S.pt_size v0))))).toNat)).pc v0 (max 4 (w32 (2 * (S.pt_size v0)))))).bs - ((max 4 (w32 (2 * (S.pt_size v0))))).toNat)) (nU (CW.w_bs (CW.w_bc (CW.w_pc (CW.w_bs (CW.w_bc c (c.bc - 1)) (c.bs - ((max 4 (w32 (2 * (S.pt_size v0))))).toNat)) (nU (CW.w_bs (CW.w_bc c (c.bc - 1)) (c.bs - ((max 4 (w32 (2 * (S.pt_size v0))))).toNat)).pc v0 (max 4 (w32 (2 * (S.pt_size v0)))))) ((CW.w_pc (CW.w_bs (CW.w_bc c (c.bc - 1)) (c.bs - ((max 4 (w32 (2 * (S.pt_size v0))))).toNat)) (nU (CW.w_bs (CW.w_bc c (c.bc - 1)) (c.bs - ((max 4 (w32 (2 * (S.pt_size v0))))).toNat)).pc v0 (max 4 (w32 (2 * (S.pt_size v0)))))).bc - 1)) ((CW.w_pc (CW.w_bs (CW.w_bc c (c.bc - 1)) (c.bs - ((max 4 (w32 (2 * (S.pt_size v0))))).toNat)) (nU (CW.w_bs (CW.w_bc c (c.bc - 1)) (c.bs - ((max 4 (w32 (2 * (S.pt_size v0))))).toNat)).pc v0 (max 4 (w32 (2 * (S.pt_size v0)))))).bs - ((max 4 (w32 (2 * (S.pt_size v0))))).toNat)).pv v0 (max 4 (w32 (2 * (S.pt_size v0)))))) v0 v1 v3 (WS.w_pt_values (WS.w_pt_times S (nU S.pt_times v0 (aK (S.pt_times v0) 0 (c.pc v0) (max 4 (w32 (2 * (S.pt_size v0))))))) (nU S.pt_values v0 (aK (S.pt_values v0) 0 ((CW.w_pc (CW.w_bs (CW.w_bc c (c.bc - 1)) (c.bs - ((max 4 (w32 (2 * (S.pt_size v0))))).toNat)) (nU (CW.w_bs (CW.w_bc c (c.bc - 1)) (c.bs - ((max 4 (w32 (2 * (S.pt_size v0))))).toNat)).pc v0 (max 4 (w32 (2 * (S.pt_size v0)))))).pv v0) (max 4 (w32 (2 * (S.pt_size v0))))))) else none else none else none else none

def s_Pt_add (C0 : CW) (S : WS) (v0 : Nat) (v1 : Int64) (v3 : Int64) : Option (Unit × CW × WS) := if w32 (C0.pc v0) ≤ w32 (S.pt_size v0) then q_Pt_add_24 C0 v0 v1 v3 S else if w32 (S.pt_size v0) < w32 (C0.pv v0) then q_Pt_add_62 C0 v0 v1 v3 S else q_Pt_add_24 C0 v0 v1 v3 S
set_option maxHeartbeats 4000000 in
set_option maxRecDepth 100000 in
theorem r_Pt_add (l : Launch) (D : jd_T) (g : Nat → Nat) (A0 : AW) (C0 : CW) (S : WS) (v0 : Nat) (v1 : Int64) (v3 : Int64) (r : Unit) (c9 : CW) (S9 : WS) (hv0 : v0 < C0.N) (hs : s_Pt_add C0 S v0 v1 v3 = some (r, c9, S9)) : jgI_C l D y_Pt_add b_Pt_add 6 none { frames := 2, cells := C0.bc, slots := C0.bs, locals := 62 } [.ref (A0.us v0 5), .long v1, .long v3] (wtL D g A0 C0 S) (fun A : AW => (.returned (none), (c9.bc ≤ C0.bc ∧ c9.bs ≤ C0.bs) ∧ aS A0 A, wtL D g A c9 S9, C0.bc - c9.bc, C0.bs - c9.bs)) := by
  refine jgI_of rfl (Nat.le_of_ble_eq_true rfl) ?_
  intro X hl hR hN ok hI hnm fin
  subst hl
  have hcc : (C0.bc ≤ C0.bc ∧ C0.bs ≤ C0.bs) ∧ aS A0 A0 := ⟨⟨Nat.le_refl _, Nat.le_refl _⟩, fun _ _ _ => rfl⟩
  have B_62 : ∀ (A : AW) (c : CW) (v0 : Nat) (v1 : Int64) (v3 : Int64) (S : WS), (c.bc ≤ C0.bc ∧ c.bs ≤ C0.bs) ∧ aS A0 A → v0 < c.N → q_Pt_add_62 c v0 v1 v3 S = some (r, c9, S9) → jw X (C0.bc - c.bc) (C0.bs - c.bs) (wtL D g A c S) [(0, .ref (A.us v0 5)), (1, .long v1), (3, .long v3)] 62 [] := by
    intro A c v0 v1 v3 S hcc hv0 hs
    rw [q_Pt_add_62] at hs
    refine jr_aload_n ok 0 d_Pt_add_62 rfl rfl ?_
    refine jq_get (v := .ref (A.us v0 6)) ok f_Pt_9 (sg_atp (F := serW D A c S) 5 rfl hv0 5 rfl) rfl d_Pt_add_63 ?_
    refine jr_aload_n ok 0 d_Pt_add_66 rfl rfl ?_
    refine jq_get (v := .int (ii (S.pt_size v0))) ok f_Pt_24 (sg_atp (F := serW D A c S) 5 rfl hv0 5 rfl) rfl d_Pt_add_67 ?_
    refine jr_lload_n ok 1 d_Pt_add_70 rfl rfl ?_
    obtain ⟨hb25, hs⟩ := oq_if hs
    refine jq_last (wtL D g A c (WS.w_pt_times S (nU S.pt_times v0 (aU (S.pt_times v0) (S.pt_size v0) v1)))) ok (sg_atp (F := serW D A c S) 5 rfl hv0 6 rfl) rfl hb25.1 hb25.2  ⟨serW D A c (WS.w_pt_times S (nU S.pt_times v0 (aU (S.pt_times v0) (S.pt_size v0) v1))), fun j hj => by simp only [serW, nU, if_neg hj, WS.w_pt_times, WS.se_letters, WS.se_starts, WS.se_signs, WS.se_ends, WS.pt_times, WS.pt_values, WS.pt_size, WS.pt_packed, WS.pt_lastTime], by simp [serW, nU, WS.w_pt_times, WS.se_letters, WS.se_starts, WS.se_signs, WS.se_ends, WS.pt_times, WS.pt_values, WS.pt_size, WS.pt_packed, WS.pt_lastTime] <;> rfl, rfl⟩ d_Pt_add_71 ?_
    refine jr_aload_n ok 0 d_Pt_add_72 rfl rfl ?_
    refine jq_get (v := .ref (A.us v0 7)) ok f_Pt_15 (sg_atp (F := serW D A c (WS.w_pt_times S (nU S.pt_times v0 (aU (S.pt_times v0) (S.pt_size v0) v1)))) 5 rfl hv0 5 rfl) rfl d_Pt_add_73 ?_
    refine jr_aload_n ok 0 d_Pt_add_76 rfl rfl ?_
    refine jq_get (v := .int (ii (S.pt_size v0))) ok f_Pt_24 (sg_atp (F := serW D A c (WS.w_pt_times S (nU S.pt_times v0 (aU (S.pt_times v0) (S.pt_size v0) v1)))) 5 rfl hv0 5 rfl) rfl d_Pt_add_77 ?_
    refine jr_lload_n ok 2 d_Pt_add_80 rfl rfl ?_
    obtain ⟨hb26, hs⟩ := oq_if hs
    refine jq_last (wtL D g A c (WS.w_pt_values (WS.w_pt_times S (nU S.pt_times v0 (aU (S.pt_times v0) (S.pt_size v0) v1))) (nU S.pt_values v0 (aU (S.pt_values v0) (S.pt_size v0) v3)))) ok (sg_atp (F := serW D A c (WS.w_pt_times S (nU S.pt_times v0 (aU (S.pt_times v0) (S.pt_size v0) v1)))) 5 rfl hv0 7 rfl) rfl hb26.1 hb26.2  ⟨serW D A c (WS.w_pt_values (WS.w_pt_times S (nU S.pt_times v0 (aU (S.pt_times v0) (S.pt_size v0) v1))) (nU S.pt_values v0 (aU (S.pt_values v0) (S.pt_size v0) v3))), fun j hj => by simp only [serW, nU, if_neg hj, WS.w_pt_times, WS.w_pt_values, WS.se_letters, WS.se_starts, WS.se_signs, WS.se_ends, WS.pt_times, WS.pt_values, WS.pt_size, WS.pt_packed, WS.pt_lastTime], by simp [serW, nU, WS.w_pt_times, WS.w_pt_values, WS.se_letters, WS.se_starts, WS.se_signs, WS.se_ends, WS.pt_times, WS.pt_values, WS.pt_size, WS.pt_packed, WS.pt_lastTime] <;> rfl, rfl⟩ d_Pt_add_81 ?_
    refine jr_aload_n ok 0 d_Pt_add_82 rfl rfl ?_
    refine jr_dup rfl ok d_Pt_add_83 ?_
    refine jq_get (v := .int (ii (S.pt_size v0))) ok f_Pt_24 (sg_atp (F := serW D A c (WS.w_pt_values (WS.w_pt_times S (nU S.pt_times v0 (aU (S.pt_times v0) (S.pt_size v0) v1))) (nU S.pt_values v0 (aU (S.pt_values v0) (S.pt_size v0) v3)))) 5 rfl hv0 5 rfl) rfl d_Pt_add_84 ?_
    refine jr_iconst ok d_Pt_add_87 ?_
    refine jr_iadd ok d_Pt_add_88 ?_
    refine jq_put (wtL D g A c (WS.w_pt_size (WS.w_pt_values (WS.w_pt_times S (nU S.pt_times v0 (aU (S.pt_times v0) (S.pt_size v0) v1))) (nU S.pt_values v0 (aU (S.pt_values v0) (S.pt_size v0) v3))) (nU S.pt_size v0 ((S.pt_size v0) + 1)))) ok f_Pt_24 (sg_atp (F := serW D A c (WS.w_pt_values (WS.w_pt_times S (nU S.pt_times v0 (aU (S.pt_times v0) (S.pt_size v0) v1))) (nU S.pt_values v0 (aU (S.pt_values v0) (S.pt_size v0) v3)))) 5 rfl hv0 5 rfl) rfl rfl (Nat.le_of_ble_eq_true rfl) ⟨serW D A c (WS.w_pt_size (WS.w_pt_values (WS.w_pt_times S (nU S.pt_times v0 (aU (S.pt_times v0) (S.pt_size v0) v1))) (nU S.pt_values v0 (aU (S.pt_values v0) (S.pt_size v0) v3))) (nU S.pt_size v0 ((S.pt_size v0) + 1))), fun j hj => by simp only [serW, nU, if_neg hj, WS.w_pt_times, WS.w_pt_values, WS.w_pt_size, WS.se_letters, WS.se_starts, WS.se_signs, WS.se_ends, WS.pt_times, WS.pt_values, WS.pt_size, WS.pt_packed, WS.pt_lastTime], by simp [serW, nU, WS.w_pt_times, WS.w_pt_values, WS.w_pt_size, WS.se_letters, WS.se_starts, WS.se_signs, WS.se_ends, WS.pt_times, WS.pt_values, WS.pt_size, WS.pt_packed, WS.pt_lastTime] <;> rfl, rfl⟩ d_Pt_add_89 ?_
    refine jr_aload_n ok 0 d_Pt_add_92 rfl rfl ?_
    refine jr_lload_n ok 1 d_Pt_add_93 rfl rfl ?_
    refine jq_put (wtL D g A c (WS.w_pt_lastTime (WS.w_pt_size (WS.w_pt_values (WS.w_pt_times S (nU S.pt_times v0 (aU (S.pt_times v0) (S.pt_size v0) v1))) (nU S.pt_values v0 (aU (S.pt_values v0) (S.pt_size v0) v3))) (nU S.pt_size v0 ((S.pt_size v0) + 1))) (nU S.pt_lastTime v0 v1))) ok f_Pt_20 (sg_atp (F := serW D A c (WS.w_pt_size (WS.w_pt_values (WS.w_pt_times S (nU S.pt_times v0 (aU (S.pt_times v0) (S.pt_size v0) v1))) (nU S.pt_values v0 (aU (S.pt_values v0) (S.pt_size v0) v3))) (nU S.pt_size v0 ((S.pt_size v0) + 1)))) 5 rfl hv0 5 rfl) rfl rfl (Nat.le_of_ble_eq_true rfl) ⟨serW D A c (WS.w_pt_lastTime (WS.w_pt_size (WS.w_pt_values (WS.w_pt_times S (nU S.pt_times v0 (aU (S.pt_times v0) (S.pt_size v0) v1))) (nU S.pt_values v0 (aU (S.pt_values v0) (S.pt_size v0) v3))) (nU S.pt_size v0 ((S.pt_size v0) + 1))) (nU S.pt_lastTime v0 v1)), fun j hj => by simp only [serW, nU, if_neg hj, WS.w_pt_times, WS.w_pt_values, WS.w_pt_size, WS.w_pt_lastTime, WS.se_letters, WS.se_starts, WS.se_signs, WS.se_ends, WS.pt_times, WS.pt_values, WS.pt_size, WS.pt_packed, WS.pt_lastTime], by simp [serW, nU, WS.w_pt_times, WS.w_pt_values, WS.w_pt_size, WS.w_pt_lastTime, WS.se_letters, WS.se_starts, WS.se_signs, WS.se_ends, WS.pt_times, WS.pt_values, WS.pt_size, WS.pt_packed, WS.pt_lastTime] <;> rfl, rfl⟩ d_Pt_add_94 ?_
    exact jh_vret (ψ := aS A0) (Lf := wtL D g) (bc := CW.bc) (bs := CW.bs) A ok fin hcc hs d_Pt_add_97
  have B_24 : ∀ (A : AW) (c : CW) (v0 : Nat) (v1 : Int64) (v3 : Int64) (S : WS), (c.bc ≤ C0.bc ∧ c.bs ≤ C0.bs) ∧ aS A0 A → v0 < c.N → q_Pt_add_24 c v0 v1 v3 S = some (r, c9, S9) → jw X (C0.bc - c.bc) (C0.bs - c.bs) (wtL D g A c S) [(0, .ref (A.us v0 5)), (1, .long v1), (3, .long v3)] 24 [] := by
    intro A c v0 v1 v3 S hcc hv0 hs
    rw [q_Pt_add_24] at hs
    refine jr_iconst ok d_Pt_add_24 ?_
    refine jr_iconst ok d_Pt_add_25 ?_
    refine jr_aload_n ok 0 d_Pt_add_26 rfl rfl ?_
    refine jq_get (v := .int (ii (S.pt_size v0))) ok f_Pt_24 (sg_atp (F := serW D A c S) 5 rfl hv0 5 rfl) rfl d_Pt_add_27 ?_
    refine jr_imul ok d_Pt_add_30 ?_
    refine jr_wimax ok w_656 w_657 w_17 w_658 (show w32 4 = 4 by decide) rfl hR ⟨Nat.le_of_ble_eq_true rfl, Nat.le_of_ble_eq_true rfl⟩ ⟨Nat.sub_le _ _, Nat.sub_le _ _⟩ (Nat.le_of_ble_eq_true rfl) d_Pt_add_31 ?_
    refine jr_istore [(5, .int (ii (max 4 (w32 (2 * (S.pt_size v0)))))), (0, .ref (A.us v0 5)), (1, .long v1), (3, .long v3)] ok d_Pt_add_34 (by rw [hN]; decide) rfl ?_
    refine jr_aload_n ok 1 d_Pt_add_36 rfl rfl ?_
    refine jr_aload_n ok 1 d_Pt_add_37 rfl rfl ?_
    refine jq_get (v := .ref (A.us v0 6)) ok f_Pt_9 (sg_atp (F := serW D A c S) 5 rfl hv0 5 rfl) rfl d_Pt_add_38 ?_
    refine jr_iload ok 0 d_Pt_add_41 rfl ?_
    obtain ⟨hb15, hs⟩ := oq_if hs
    obtain ⟨hb16, hs⟩ := oq_if hs
    refine jq_copyG (New := fun q => al D 2 q (max 4 (w32 (2 * (S.pt_size v0)))) (aK (S.pt_times v0) 0 (c.pc v0) (max 4 (w32 (2 * (S.pt_size v0)))))) ok hR hcc.1 hb16 m_Pt_34 (c_cpL (jx_l X) D (A.us v0 6) (c.pc v0) (max 4 (w32 (2 * (S.pt_size v0)))) (S.pt_times v0) hb15) (sg_atp (F := serW D A c S) 5 rfl hv0 6 rfl) ⟨serW D A c S, fun _ _ => rfl, rfl, rfl⟩ rfl rfl (Nat.le_of_ble_eq_true rfl) ⟨Nat.le_of_ble_eq_true rfl, Nat.le_of_ble_eq_true rfl⟩ d_Pt_add_43 (fun q17 => ?_)
    have hcc18 : ((CW.w_bs (CW.w_bc c (c.bc - 1)) (c.bs - ((max 4 (w32 (2 * (S.pt_size v0))))).toNat)).bc ≤ C0.bc ∧ (CW.w_bs (CW.w_bc c (c.bc - 1)) (c.bs - ((max 4 (w32 (2 * (S.pt_size v0))))).toNat)).bs ≤ C0.bs) ∧ aS A0 A := ⟨⟨Nat.le_trans (Nat.sub_le _ _) hcc.1.1, Nat.le_trans (Nat.sub_le _ _) hcc.1.2⟩, hcc.2⟩
    show jw X (C0.bc - (CW.w_bs (CW.w_bc c (c.bc - 1)) (c.bs - ((max 4 (w32 (2 * (S.pt_size v0))))).toNat)).bc) (C0.bs - (CW.w_bs (CW.w_bc c (c.bc - 1)) (c.bs - ((max 4 (w32 (2 * (S.pt_size v0))))).toNat)).bs) ((wtL D g A (CW.w_bs (CW.w_bc c (c.bc - 1)) (c.bs - ((max 4 (w32 (2 * (S.pt_size v0))))).toNat)) S) ++ [al D 2 q17 (max 4 (w32 (2 * (S.pt_size v0)))) (aK (S.pt_times v0) 0 (c.pc v0) (max 4 (w32 (2 * (S.pt_size v0)))))]) [(5, .int (ii (max 4 (w32 (2 * (S.pt_size v0)))))), (0, .ref (A.us v0 5)), (1, .long v1), (3, .long v3)] 46 [.ref q17, .ref (A.us v0 5)]
    refine jq_putP (F := serW D A (CW.w_bs (CW.w_bc c (c.bc - 1)) (c.bs - ((max 4 (w32 (2 * (S.pt_size v0))))).toNat)) S) (F' := serW D (AW.w_us A (nU A.us v0 (nU (A.us v0) 6 q17))) (CW.w_pc (CW.w_bs (CW.w_bc c (c.bc - 1)) (c.bs - ((max 4 (w32 (2 * (S.pt_size v0))))).toNat)) (nU (CW.w_bs (CW.w_bc c (c.bc - 1)) (c.bs - ((max 4 (w32 (2 * (S.pt_size v0))))).toNat)).pc v0 (max 4 (w32 (2 * (S.pt_size v0)))))) (WS.w_pt_times S (nU S.pt_times v0 (aK (S.pt_times v0) 0 (c.pc v0) (max 4 (w32 (2 * (S.pt_size v0)))))))) (wtL D g (AW.w_us A (nU A.us v0 (nU (A.us v0) 6 q17))) (CW.w_pc (CW.w_bs (CW.w_bc c (c.bc - 1)) (c.bs - ((max 4 (w32 (2 * (S.pt_size v0))))).toNat)) (nU (CW.w_bs (CW.w_bc c (c.bc - 1)) (c.bs - ((max 4 (w32 (2 * (S.pt_size v0))))).toNat)).pc v0 (max 4 (w32 (2 * (S.pt_size v0)))))) (WS.w_pt_times S (nU S.pt_times v0 (aK (S.pt_times v0) 0 (c.pc v0) (max 4 (w32 (2 * (S.pt_size v0)))))))) 5 5 6 ok f_Pt_9 rfl hv0 rfl rfl rfl rfl (Nat.le_of_ble_eq_true rfl) (fun j hj => by simp only [serW, nU, if_neg hj, WS.w_pt_times, WS.se_letters, WS.se_starts, WS.se_signs, WS.se_ends, WS.pt_times, WS.pt_values, WS.pt_size, WS.pt_packed, WS.pt_lastTime, AW.us, AW.w_us, AW.gn, AW.gt, AW.w_gn, AW.w_gt, CW.gc, CW.gd, CW.pc, CW.pv, CW.ln, CW.lm, CW.N, CW.bc, CW.bs, CW.w_gc, CW.w_gd, CW.w_pc, CW.w_pv, CW.w_bc, CW.w_bs]) (by simp [serW, nU, WS.w_pt_times, WS.se_letters, WS.se_starts, WS.se_signs, WS.se_ends, WS.pt_times, WS.pt_values, WS.pt_size, WS.pt_packed, WS.pt_lastTime, AW.us, AW.w_us, AW.gn, AW.gt, AW.w_gn, AW.w_gt, CW.gc, CW.gd, CW.pc, CW.pv, CW.ln, CW.lm, CW.N, CW.bc, CW.bs, CW.w_gc, CW.w_gd, CW.w_pc, CW.w_pv, CW.w_bc, CW.w_bs] <;> rfl) (wt_us D g A (CW.w_pc (CW.w_bs (CW.w_bc c (c.bc - 1)) (c.bs - ((max 4 (w32 (2 * (S.pt_size v0))))).toNat)) (nU (CW.w_bs (CW.w_bc c (c.bc - 1)) (c.bs - ((max 4 (w32 (2 * (S.pt_size v0))))).toNat)).pc v0 (max 4 (w32 (2 * (S.pt_size v0)))))) (WS.w_pt_times S (nU S.pt_times v0 (aK (S.pt_times v0) 0 (c.pc v0) (max 4 (w32 (2 * (S.pt_size v0))))))) v0 6 q17 (by decide)) d_Pt_add_46 ?_
    rw [show A.us v0 5 = (AW.w_us A (nU A.us v0 (nU (A.us v0) 6 q17))).us v0 5 from (us_ne A v0 6 5 q17 (by decide)).symm]
    have hcc19 : ((CW.w_pc (CW.w_bs (CW.w_bc c (c.bc - 1)) (c.bs - ((max 4 (w32 (2 * (S.pt_size v0))))).toNat)) (nU (CW.w_bs (CW.w_bc c (c.bc - 1)) (c.bs - ((max 4 (w32 (2 * (S.pt_size v0))))).toNat)).pc v0 (max 4 (w32 (2 * (S.pt_size v0)))))).bc ≤ C0.bc ∧ (CW.w_pc (CW.w_bs (CW.w_bc c (c.bc - 1)) (c.bs - ((max 4 (w32 (2 * (S.pt_size v0))))).toNat)) (nU (CW.w_bs (CW.w_bc c (c.bc - 1)) (c.bs - ((max 4 (w32 (2 * (S.pt_size v0))))).toNat)).pc v0 (max 4 (w32 (2 * (S.pt_size v0)))))).bs ≤ C0.bs) ∧ aS A0 (AW.w_us A (nU A.us v0 (nU (A.us v0) 6 q17))) := ⟨hcc18.1, aS_us hcc18.2 v0 6 q17 (by decide)⟩
    refine jr_aload_n ok 1 d_Pt_add_49 rfl rfl ?_
    refine jr_aload_n ok 1 d_Pt_add_50 rfl rfl ?_
    refine jq_get (v := .ref ((AW.w_us A (nU A.us v0 (nU (A.us v0) 6 q17))).us v0 7)) ok f_Pt_15 (sg_atp (F := serW D (AW.w_us A (nU A.us v0 (nU (A.us v0) 6 q17))) (CW.w_pc (CW.w_bs (CW.w_bc c (c.bc - 1)) (c.bs - ((max 4 (w32 (2 * (S.pt_size v0))))).toNat)) (nU (CW.w_bs (CW.w_bc c (c.bc - 1)) (c.bs - ((max 4 (w32 (2 * (S.pt_size v0))))).toNat)).pc v0 (max 4 (w32 (2 * (S.pt_size v0)))))) (WS.w_pt_times S (nU S.pt_times v0 (aK (S.pt_times v0) 0 (c.pc v0) (max 4 (w32 (2 * (S.pt_size v0)))))))) 5 rfl hv0 5 rfl) rfl d_Pt_add_51 ?_
    refine jr_iload ok 0 d_Pt_add_54 rfl ?_
    obtain ⟨hb20, hs⟩ := oq_if hs
    obtain ⟨hb21, hs⟩ := oq_if hs
    refine jq_copyG (New := fun q => al D 2 q (max 4 (w32 (2 * (S.pt_size v0)))) (aK (S.pt_values v0) 0 ((CW.w_pc (CW.w_bs (CW.w_bc c (c.bc - 1)) (c.bs - ((max 4 (w32 (2 * (S.pt_size v0))))).toNat)) (nU (CW.w_bs (CW.w_bc c (c.bc - 1)) (c.bs - ((max 4 (w32 (2 * (S.pt_size v0))))).toNat)).pc v0 (max 4 (w32 (2 * (S.pt_size v0)))))).pv v0) (max 4 (w32 (2 * (S.pt_size v0)))))) ok hR hcc19.1 hb21 m_Pt_34 (c_cpL (jx_l X) D ((AW.w_us A (nU A.us v0 (nU (A.us v0) 6 q17))).us v0 7) ((CW.w_pc (CW.w_bs (CW.w_bc c (c.bc - 1)) (c.bs - ((max 4 (w32 (2 * (S.pt_size v0))))).toNat)) (nU (CW.w_bs (CW.w_bc c (c.bc - 1)) (c.bs - ((max 4 (w32 (2 * (S.pt_size v0))))).toNat)).pc v0 (max 4 (w32 (2 * (S.pt_size v0)))))).pv v0) (max 4 (w32 (2 * (S.pt_size v0)))) (S.pt_values v0) hb20) (sg_atp (F := serW D (AW.w_us A (nU A.us v0 (nU (A.us v0) 6 q17))) (CW.w_pc (CW.w_bs (CW.w_bc c (c.bc - 1)) (c.bs - ((max 4 (w32 (2 * (S.pt_size v0))))).toNat)) (nU (CW.w_bs (CW.w_bc c (c.bc - 1)) (c.bs - ((max 4 (w32 (2 * (S.pt_size v0))))).toNat)).pc v0 (max 4 (w32 (2 * (S.pt_size v0)))))) (WS.w_pt_times S (nU S.pt_times v0 (aK (S.pt_times v0) 0 (c.pc v0) (max 4 (w32 (2 * (S.pt_size v0)))))))) 5 rfl hv0 7 rfl) ⟨serW D (AW.w_us A (nU A.us v0 (nU (A.us v0) 6 q17))) (CW.w_pc (CW.w_bs (CW.w_bc c (c.bc - 1)) (c.bs - ((max 4 (w32 (2 * (S.pt_size v0))))).toNat)) (nU (CW.w_bs (CW.w_bc c (c.bc - 1)) (c.bs - ((max 4 (w32 (2 * (S.pt_size v0))))).toNat)).pc v0 (max 4 (w32 (2 * (S.pt_size v0)))))) (WS.w_pt_times S (nU S.pt_times v0 (aK (S.pt_times v0) 0 (c.pc v0) (max 4 (w32 (2 * (S.pt_size v0))))))), fun _ _ => rfl, rfl, rfl⟩ rfl rfl (Nat.le_of_ble_eq_true rfl) ⟨Nat.le_of_ble_eq_true rfl, Nat.le_of_ble_eq_true rfl⟩ d_Pt_add_56 (fun q22 => ?_)
    have hcc23 : ((CW.w_bs (CW.w_bc (CW.w_pc (CW.w_bs (CW.w_bc c (c.bc - 1)) (c.bs - ((max 4 (w32 (2 * (S.pt_size v0))))).toNat)) (nU (CW.w_bs (CW.w_bc c (c.bc - 1)) (c.bs - ((max 4 (w32 (2 * (S.pt_size v0))))).toNat)).pc v0 (max 4 (w32 (2 * (S.pt_size v0)))))) ((CW.w_pc (CW.w_bs (CW.w_bc c (c.bc - 1)) (c.bs - ((max 4 (w32 (2 * (S.pt_size v0))))).toNat)) (nU (CW.w_bs (CW.w_bc c (c.bc - 1)) (c.bs - ((max 4 (w32 (2 * (S.pt_size v0))))).toNat)).pc v0 (max 4 (w32 (2 * (S.pt_size v0)))))).bc - 1)) ((CW.w_pc (CW.w_bs (CW.w_bc c (c.bc - 1)) (c.bs - ((max 4 (w32 (2 * (S.pt_size v0))))).toNat)) (nU (CW.w_bs (CW.w_bc c (c.bc - 1)) (c.bs - ((max 4 (w32 (2 * (S.pt_size v0))))).toNat)).pc v0 (max 4 (w32 (2 * (S.pt_size v0)))))).bs - ((max 4 (w32 (2 * (S.pt_size v0))))).toNat)).bc ≤ C0.bc ∧ (CW.w_bs (CW.w_bc (CW.w_pc (CW.w_bs (CW.w_bc c (c.bc - 1)) (c.bs - ((max 4 (w32 (2 * (S.pt_size v0))))).toNat)) (nU (CW.w_bs (CW.w_bc c (c.bc - 1)) (c.bs - ((max 4 (w32 (2 * (S.pt_size v0))))).toNat)).pc v0 (max 4 (w32 (2 * (S.pt_size v0)))))) ((CW.w_pc (CW.w_bs (CW.w_bc c (c.bc - 1)) (c.bs - ((max 4 (w32 (2 * (S.pt_size v0))))).toNat)) (nU (CW.w_bs (CW.w_bc c (c.bc - 1)) (c.bs - ((max 4 (w32 (2 * (S.pt_size v0))))).toNat)).pc v0 (max 4 (w32 (2 * (S.pt_size v0)))))).bc - 1)) ((CW.w_pc (CW.w_bs (CW.w_bc c (c.bc - 1)) (c.bs - ((max 4 (w32 (2 * (S.pt_size v0))))).toNat)) (nU (CW.w_bs (CW.w_bc c (c.bc - 1)) (c.bs - ((max 4 (w32 (2 * (S.pt_size v0))))).toNat)).pc v0 (max 4 (w32 (2 * (S.pt_size v0)))))).bs - ((max 4 (w32 (2 * (S.pt_size v0))))).toNat)).bs ≤ C0.bs) ∧ aS A0 (AW.w_us A (nU A.us v0 (nU (A.us v0) 6 q17))) := ⟨⟨Nat.le_trans (Nat.sub_le _ _) hcc19.1.1, Nat.le_trans (Nat.sub_le _ _) hcc19.1.2⟩, hcc19.2⟩
    show jw X (C0.bc - (CW.w_bs (CW.w_bc (CW.w_pc (CW.w_bs (CW.w_bc c (c.bc - 1)) (c.bs - ((max 4 (w32 (2 * (S.pt_size v0))))).toNat)) (nU (CW.w_bs (CW.w_bc c (c.bc - 1)) (c.bs - ((max 4 (w32 (2 * (S.pt_size v0))))).toNat)).pc v0 (max 4 (w32 (2 * (S.pt_size v0)))))) ((CW.w_pc (CW.w_bs (CW.w_bc c (c.bc - 1)) (c.bs - ((max 4 (w32 (2 * (S.pt_size v0))))).toNat)) (nU (CW.w_bs (CW.w_bc c (c.bc - 1)) (c.bs - ((max 4 (w32 (2 * (S.pt_size v0))))).toNat)).pc v0 (max 4 (w32 (2 * (S.pt_size v0)))))).bc - 1)) ((CW.w_pc (CW.w_bs (CW.w_bc c (c.bc - 1)) (c.bs - ((max 4 (w32 (2 * (S.pt_size v0))))).toNat)) (nU (CW.w_bs (CW.w_bc c (c.bc - 1)) (c.bs - ((max 4 (w32 (2 * (S.pt_size v0))))).toNat)).pc v0 (max 4 (w32 (2 * (S.pt_size v0)))))).bs - ((max 4 (w32 (2 * (S.pt_size v0))))).toNat)).bc) (C0.bs - (CW.w_bs (CW.w_bc (CW.w_pc (CW.w_bs (CW.w_bc c (c.bc - 1)) (c.bs - ((max 4 (w32 (2 * (S.pt_size v0))))).toNat)) (nU (CW.w_bs (CW.w_bc c (c.bc - 1)) (c.bs - ((max 4 (w32 (2 * (S.pt_size v0))))).toNat)).pc v0 (max 4 (w32 (2 * (S.pt_size v0)))))) ((CW.w_pc (CW.w_bs (CW.w_bc c (c.bc - 1)) (c.bs - ((max 4 (w32 (2 * (S.pt_size v0))))).toNat)) (nU (CW.w_bs (CW.w_bc c (c.bc - 1)) (c.bs - ((max 4 (w32 (2 * (S.pt_size v0))))).toNat)).pc v0 (max 4 (w32 (2 * (S.pt_size v0)))))).bc - 1)) ((CW.w_pc (CW.w_bs (CW.w_bc c (c.bc - 1)) (c.bs - ((max 4 (w32 (2 * (S.pt_size v0))))).toNat)) (nU (CW.w_bs (CW.w_bc c (c.bc - 1)) (c.bs - ((max 4 (w32 (2 * (S.pt_size v0))))).toNat)).pc v0 (max 4 (w32 (2 * (S.pt_size v0)))))).bs - ((max 4 (w32 (2 * (S.pt_size v0))))).toNat)).bs) ((wtL D g (AW.w_us A (nU A.us v0 (nU (A.us v0) 6 q17))) (CW.w_bs (CW.w_bc (CW.w_pc (CW.w_bs (CW.w_bc c (c.bc - 1)) (c.bs - ((max 4 (w32 (2 * (S.pt_size v0))))).toNat)) (nU (CW.w_bs (CW.w_bc c (c.bc - 1)) (c.bs - ((max 4 (w32 (2 * (S.pt_size v0))))).toNat)).pc v0 (max 4 (w32 (2 * (S.pt_size v0)))))) ((CW.w_pc (CW.w_bs (CW.w_bc c (c.bc - 1)) (c.bs - ((max 4 (w32 (2 * (S.pt_size v0))))).toNat)) (nU (CW.w_bs (CW.w_bc c (c.bc - 1)) (c.bs - ((max 4 (w32 (2 * (S.pt_size v0))))).toNat)).pc v0 (max 4 (w32 (2 * (S.pt_size v0)))))).bc - 1)) ((CW.w_pc (CW.w_bs (CW.w_bc c (c.bc - 1)) (c.bs - ((max 4 (w32 (2 * (S.pt_size v0))))).toNat)) (nU (CW.w_bs (CW.w_bc c (c.bc - 1)) (c.bs - ((max 4 (w32 (2 * (S.pt_size v0))))).toNat)).pc v0 (max 4 (w32 (2 * (S.pt_size v0)))))).bs - ((max 4 (w32 (2 * (S.pt_size v0))))).toNat)) (WS.w_pt_times S (nU S.pt_times v0 (aK (S.pt_times v0) 0 (c.pc v0) (max 4 (w32 (2 * (S.pt_size v0)))))))) ++ [al D 2 q22 (max 4 (w32 (2 * (S.pt_size v0)))) (aK (S.pt_values v0) 0 ((CW.w_pc (CW.w_bs (CW.w_bc c (c.bc - 1)) (c.bs - ((max 4 (w32 (2 * (S.pt_size v0))))).toNat)) (nU (CW.w_bs (CW.w_bc c (c.bc - 1)) (c.bs - ((max 4 (w32 (2 * (S.pt_size v0))))).toNat)).pc v0 (max 4 (w32 (2 * (S.pt_size v0)))))).pv v0) (max 4 (w32 (2 * (S.pt_size v0)))))]) [(5, .int (ii (max 4 (w32 (2 * (S.pt_size v0)))))), (0, .ref ((AW.w_us A (nU A.us v0 (nU (A.us v0) 6 q17))).us v0 5)), (1, .long v1), (3, .long v3)] 59 [.ref q22, .ref ((AW.w_us A (nU A.us v0 (nU (A.us v0) 6 q17))).us v0 5)]
    refine jq_putP (F := serW D (AW.w_us A (nU A.us v0 (nU (A.us v0) 6 q17))) (CW.w_bs (CW.w_bc (CW.w_pc (CW.w_bs (CW.w_bc c (c.bc - 1)) (c.bs - ((max 4 (w32 (2 * (S.pt_size v0))))).toNat)) (nU (CW.w_bs (CW.w_bc c (c.bc - 1)) (c.bs - ((max 4 (w32 (2 * (S.pt_size v0))))).toNat)).pc v0 (max 4 (w32 (2 * (S.pt_size v0)))))) ((CW.w_pc (CW.w_bs (CW.w_bc c (c.bc - 1)) (c.bs - ((max 4 (w32 (2 * (S.pt_size v0))))).toNat)) (nU (CW.w_bs (CW.w_bc c (c.bc - 1)) (c.bs - ((max 4 (w32 (2 * (S.pt_size v0))))).toNat)).pc v0 (max 4 (w32 (2 * (S.pt_size v0)))))).bc - 1)) ((CW.w_pc (CW.w_bs (CW.w_bc c (c.bc - 1)) (c.bs - ((max 4 (w32 (2 * (S.pt_size v0))))).toNat)) (nU (CW.w_bs (CW.w_bc c (c.bc - 1)) (c.bs - ((max 4 (w32 (2 * (S.pt_size v0))))).toNat)).pc v0 (max 4 (w32 (2 * (S.pt_size v0)))))).bs - ((max 4 (w32 (2 * (S.pt_size v0))))).toNat)) (WS.w_pt_times S (nU S.pt_times v0 (aK (S.pt_times v0) 0 (c.pc v0) (max 4 (w32 (2 * (S.pt_size v0)))))))) (F' := serW D (AW.w_us (AW.w_us A (nU A.us v0 (nU (A.us v0) 6 q17))) (nU (AW.w_us A (nU A.us v0 (nU (A.us v0) 6 q17))).us v0 (nU ((AW.w_us A (nU A.us v0 (nU (A.us v0) 6 q17))).us v0) 7 q22))) (CW.w_pv (CW.w_bs (CW.w_bc (CW.w_pc (CW.w_bs (CW.w_bc c (c.bc - 1)) (c.bs - ((max 4 (w32 (2 * (S.pt_size v0))))).toNat)) (nU (CW.w_bs (CW.w_bc c (c.bc - 1)) (c.bs - ((max 4 (w32 (2 * (S.pt_size v0))))).toNat)).pc v0 (max 4 (w32 (2 * (S.pt_size v0)))))) ((CW.w_pc (CW.w_bs (CW.w_bc c (c.bc - 1)) (c.bs - ((max 4 (w32 (2 * (S.pt_size v0))))).toNat)) (nU (CW.w_bs (CW.w_bc c (c.bc - 1)) (c.bs - ((max 4 (w32 (2 * (S.pt_size v0))))).toNat)).pc v0 (max 4 (w32 (2 * (S.pt_size v0)))))).bc - 1)) ((CW.w_pc (CW.w_bs (CW.w_bc c (c.bc - 1)) (c.bs - ((max 4 (w32 (2 * (S.pt_size v0))))).toNat)) (nU (CW.w_bs (CW.w_bc c (c.bc - 1)) (c.bs - ((max 4 (w32 (2 * (S.pt_size v0))))).toNat)).pc v0 (max 4 (w32 (2 * (S.pt_size v0)))))).bs - ((max 4 (w32 (2 * (S.pt_size v0))))).toNat)) (nU (CW.w_bs (CW.w_bc (CW.w_pc (CW.w_bs (CW.w_bc c (c.bc - 1)) (c.bs - ((max 4 (w32 (2 * (S.pt_size v0))))).toNat)) (nU (CW.w_bs (CW.w_bc c (c.bc - 1)) (c.bs - ((max 4 (w32 (2 * (S.pt_size v0))))).toNat)).pc v0 (max 4 (w32 (2 * (S.pt_size v0)))))) ((CW.w_pc (CW.w_bs (CW.w_bc c (c.bc - 1)) (c.bs - ((max 4 (w32 (2 * (S.pt_size v0))))).toNat)) (nU (CW.w_bs (CW.w_bc c (c.bc - 1)) (c.bs - ((max 4 (w32 (2 * (S.pt_size v0))))).toNat)).pc v0 (max 4 (w32 (2 * (S.pt_size v0)))))).bc - 1)) ((CW.w_pc (CW.w_bs (CW.w_bc c (c.bc - 1)) (c.bs - ((max 4 (w32 (2 * (S.pt_size v0))))).toNat)) (nU (CW.w_bs (CW.w_bc c (c.bc - 1)) (c.bs - ((max 4 (w32 (2 * (S.pt_size v0))))).toNat)).pc v0 (max 4 (w32 (2 * (S.pt_size v0)))))).bs - ((max 4 (w32 (2 * (S.pt_size v0))))).toNat)).pv v0 (max 4 (w32 (2 * (S.pt_size v0)))))) (WS.w_pt_values (WS.w_pt_times S (nU S.pt_times v0 (aK (S.pt_times v0) 0 (c.pc v0) (max 4 (w32 (2 * (S.pt_size v0))))))) (nU S.pt_values v0 (aK (S.pt_values v0) 0 ((CW.w_pc (CW.w_bs (CW.w_bc c (c.bc - 1)) (c.bs - ((max 4 (w32 (2 * (S.pt_size v0))))).toNat)) (nU (CW.w_bs (CW.w_bc c (c.bc - 1)) (c.bs - ((max 4 (w32 (2 * (S.pt_size v0))))).toNat)).pc v0 (max 4 (w32 (2 * (S.pt_size v0)))))).pv v0) (max 4 (w32 (2 * (S.pt_size v0)))))))) (wtL D g (AW.w_us (AW.w_us A (nU A.us v0 (nU (A.us v0) 6 q17))) (nU (AW.w_us A (nU A.us v0 (nU (A.us v0) 6 q17))).us v0 (nU ((AW.w_us A (nU A.us v0 (nU (A.us v0) 6 q17))).us v0) 7 q22))) (CW.w_pv (CW.w_bs (CW.w_bc (CW.w_pc (CW.w_bs (CW.w_bc c (c.bc - 1)) (c.bs - ((max 4 (w32 (2 * (S.pt_size v0))))).toNat)) (nU (CW.w_bs (CW.w_bc c (c.bc - 1)) (c.bs - ((max 4 (w32 (2 * (S.pt_size v0))))).toNat)).pc v0 (max 4 (w32 (2 * (S.pt_size v0)))))) ((CW.w_pc (CW.w_bs (CW.w_bc c (c.bc - 1)) (c.bs - ((max 4 (w32 (2 * (S.pt_size v0))))).toNat)) (nU (CW.w_bs (CW.w_bc c (c.bc - 1)) (c.bs - ((max 4 (w32 (2 * (S.pt_size v0))))).toNat)).pc v0 (max 4 (w32 (2 * (S.pt_size v0)))))).bc - 1)) ((CW.w_pc (CW.w_bs (CW.w_bc c (c.bc - 1)) (c.bs - ((max 4 (w32 (2 * (S.pt_size v0))))).toNat)) (nU (CW.w_bs (CW.w_bc c (c.bc - 1)) (c.bs - ((max 4 (w32 (2 * (S.pt_size v0))))).toNat)).pc v0 (max 4 (w32 (2 * (S.pt_size v0)))))).bs - ((max 4 (w32 (2 * (S.pt_size v0))))).toNat)) (nU (CW.w_bs (CW.w_bc (CW.w_pc (CW.w_bs (CW.w_bc c (c.bc - 1)) (c.bs - ((max 4 (w32 (2 * (S.pt_size v0))))).toNat)) (nU (CW.w_bs (CW.w_bc c (c.bc - 1)) (c.bs - ((max 4 (w32 (2 * (S.pt_size v0))))).toNat)).pc v0 (max 4 (w32 (2 * (S.pt_size v0)))))) ((CW.w_pc (CW.w_bs (CW.w_bc c (c.bc - 1)) (c.bs - ((max 4 (w32 (2 * (S.pt_size v0))))).toNat)) (nU (CW.w_bs (CW.w_bc c (c.bc - 1)) (c.bs - ((max 4 (w32 (2 * (S.pt_size v0))))).toNat)).pc v0 (max 4 (w32 (2 * (S.pt_size v0)))))).bc - 1)) ((CW.w_pc (CW.w_bs (CW.w_bc c (c.bc - 1)) (c.bs - ((max 4 (w32 (2 * (S.pt_size v0))))).toNat)) (nU (CW.w_bs (CW.w_bc c (c.bc - 1)) (c.bs - ((max 4 (w32 (2 * (S.pt_size v0))))).toNat)).pc v0 (max 4 (w32 (2 * (S.pt_size v0)))))).bs - ((max 4 (w32 (2 * (S.pt_size v0))))).toNat)).pv v0 (max 4 (w32 (2 * (S.pt_size v0)))))) (WS.w_pt_values (WS.w_pt_times S (nU S.pt_times v0 (aK (S.pt_times v0) 0 (c.pc v0) (max 4 (w32 (2 * (S.pt_size v0))))))) (nU S.pt_values v0 (aK (S.pt_values v0) 0 ((CW.w_pc (CW.w_bs (CW.w_bc c (c.bc - 1)) (c.bs - ((max 4 (w32 (2 * (S.pt_size v0))))).toNat)) (nU (CW.w_bs (CW.w_bc c (c.bc - 1)) (c.bs - ((max 4 (w32 (2 * (S.pt_size v0))))).toNat)).pc v0 (max 4 (w32 (2 * (S.pt_size v0)))))).pv v0) (max 4 (w32 (2 * (S.pt_size v0)))))))) 5 5 7 ok f_Pt_15 rfl hv0 rfl rfl rfl rfl (Nat.le_of_ble_eq_true rfl) (fun j hj => by simp only [serW, nU, if_neg hj, WS.w_pt_times, WS.w_pt_values, WS.se_letters, WS.se_starts, WS.se_signs, WS.se_ends, WS.pt_times, WS.pt_values, WS.pt_size, WS.pt_packed, WS.pt_lastTime, AW.us, AW.w_us, AW.gn, AW.gt, AW.w_gn, AW.w_gt, CW.gc, CW.gd, CW.pc, CW.pv, CW.ln, CW.lm, CW.N, CW.bc, CW.bs, CW.w_gc, CW.w_gd, CW.w_pc, CW.w_pv, CW.w_bc, CW.w_bs]) (by simp [serW, nU, WS.w_pt_times, WS.w_pt_values, WS.se_letters, WS.se_starts, WS.se_signs, WS.se_ends, WS.pt_times, WS.pt_values, WS.pt_size, WS.pt_packed, WS.pt_lastTime, AW.us, AW.w_us, AW.gn, AW.gt, AW.w_gn, AW.w_gt, CW.gc, CW.gd, CW.pc, CW.pv, CW.ln, CW.lm, CW.N, CW.bc, CW.bs, CW.w_gc, CW.w_gd, CW.w_pc, CW.w_pv, CW.w_bc, CW.w_bs] <;> rfl) (wt_us D g (AW.w_us A (nU A.us v0 (nU (A.us v0) 6 q17))) (CW.w_pv (CW.w_bs (CW.w_bc (CW.w_pc (CW.w_bs (CW.w_bc c (c.bc - 1)) (c.bs - ((max 4 (w32 (2 * (S.pt_size v0))))).toNat)) (nU (CW.w_bs (CW.w_bc c (c.bc - 1)) (c.bs - ((max 4 (w32 (2 * (S.pt_size v0))))).toNat)).pc v0 (max 4 (w32 (2 * (S.pt_size v0)))))) ((CW.w_pc (CW.w_bs (CW.w_bc c (c.bc - 1)) (c.bs - ((max 4 (w32 (2 * (S.pt_size v0))))).toNat)) (nU (CW.w_bs (CW.w_bc c (c.bc - 1)) (c.bs - ((max 4 (w32 (2 * (S.pt_size v0))))).toNat)).pc v0 (max 4 (w32 (2 * (S.pt_size v0)))))).bc - 1)) ((CW.w_pc (CW.w_bs (CW.w_bc c (c.bc - 1)) (c.bs - ((max 4 (w32 (2 * (S.pt_size v0))))).toNat)) (nU (CW.w_bs (CW.w_bc c (c.bc - 1)) (c.bs - ((max 4 (w32 (2 * (S.pt_size v0))))).toNat)).pc v0 (max 4 (w32 (2 * (S.pt_size v0)))))).bs - ((max 4 (w32 (2 * (S.pt_size v0))))).toNat)) (nU (CW.w_bs (CW.w_bc (CW.w_pc (CW.w_bs (CW.w_bc c (c.bc - 1)) (c.bs - ((max 4 (w32 (2 * (S.pt_size v0))))).toNat)) (nU (CW.w_bs (CW.w_bc c (c.bc - 1)) (c.bs - ((max 4 (w32 (2 * (S.pt_size v0))))).toNat)).pc v0 (max 4 (w32 (2 * (S.pt_size v0)))))) ((CW.w_pc (CW.w_bs (CW.w_bc c (c.bc - 1)) (c.bs - ((max 4 (w32 (2 * (S.pt_size v0))))).toNat)) (nU (CW.w_bs (CW.w_bc c (c.bc - 1)) (c.bs - ((max 4 (w32 (2 * (S.pt_size v0))))).toNat)).pc v0 (max 4 (w32 (2 * (S.pt_size v0)))))).bc - 1)) ((CW.w_pc (CW.w_bs (CW.w_bc c (c.bc - 1)) (c.bs - ((max 4 (w32 (2 * (S.pt_size v0))))).toNat)) (nU (CW.w_bs (CW.w_bc c (c.bc - 1)) (c.bs - ((max 4 (w32 (2 * (S.pt_size v0))))).toNat)).pc v0 (max 4 (w32 (2 * (S.pt_size v0)))))).bs - ((max 4 (w32 (2 * (S.pt_size v0))))).toNat)).pv v0 (max 4 (w32 (2 * (S.pt_size v0)))))) (WS.w_pt_values (WS.w_pt_times S (nU S.pt_times v0 (aK (S.pt_times v0) 0 (c.pc v0) (max 4 (w32 (2 * (S.pt_size v0))))))) (nU S.pt_values v0 (aK (S.pt_values v0) 0 ((CW.w_pc (CW.w_bs (CW.w_bc c (c.bc - 1)) (c.bs - ((max 4 (w32 (2 * (S.pt_size v0))))).toNat)) (nU (CW.w_bs (CW.w_bc c (c.bc - 1)) (c.bs - ((max 4 (w32 (2 * (S.pt_size v0))))).toNat)).pc v0 (max 4 (w32 (2 * (S.pt_size v0)))))).pv v0) (max 4 (w32 (2 * (S.pt_size v0))))))) v0 7 q22 (by decide)) d_Pt_add_59 ?_
    rw [show (AW.w_us A (nU A.us v0 (nU (A.us v0) 6 q17))).us v0 5 = (AW.w_us (AW.w_us A (nU A.us v0 (nU (A.us v0) 6 q17))) (nU (AW.w_us A (nU A.us v0 (nU (A.us v0) 6 q17))).us v0 (nU ((AW.w_us A (nU A.us v0 (nU (A.us v0) 6 q17))).us v0) 7 q22))).us v0 5 from (us_ne (AW.w_us A (nU A.us v0 (nU (A.us v0) 6 q17))) v0 7 5 q22 (by decide)).symm]
    have hcc24 : ((CW.w_pv (CW.w_bs (CW.w_bc (CW.w_pc (CW.w_bs (CW.w_bc c (c.bc - 1)) (c.bs - ((max 4 (w32 (2 * (S.pt_size v0))))).toNat)) (nU (CW.w_bs (CW.w_bc c (c.bc - 1)) (c.bs - ((max 4 (w32 (2 * (S.pt_size v0))))).toNat)).pc v0 (max 4 (w32 (2 * (S.pt_size v0)))))) ((CW.w_pc (CW.w_bs (CW.w_bc c (c.bc - 1)) (c.bs - ((max 4 (w32 (2 * (S.pt_size v0))))).toNat)) (nU (CW.w_bs (CW.w_bc c (c.bc - 1)) (c.bs - ((max 4 (w32 (2 * (S.pt_size v0))))).toNat)).pc v0 (max 4 (w32 (2 * (S.pt_size v0)))))).bc - 1)) ((CW.w_pc (CW.w_bs (CW.w_bc c (c.bc - 1)) (c.bs - ((max 4 (w32 (2 * (S.pt_size v0))))).toNat)) (nU (CW.w_bs (CW.w_bc c (c.bc - 1)) (c.bs - ((max 4 (w32 (2 * (S.pt_size v0))))).toNat)).pc v0 (max 4 (w32 (2 * (S.pt_size v0)))))).bs - ((max 4 (w32 (2 * (S.pt_size v0))))).toNat)) (nU (CW.w_bs (CW.w_bc (CW.w_pc (CW.w_bs (CW.w_bc c (c.bc - 1)) (c.bs - ((max 4 (w32 (2 * (S.pt_size v0))))).toNat)) (nU (CW.w_bs (CW.w_bc c (c.bc - 1)) (c.bs - ((max 4 (w32 (2 * (S.pt_size v0))))).toNat)).pc v0 (max 4 (w32 (2 * (S.pt_size v0)))))) ((CW.w_pc (CW.w_bs (CW.w_bc c (c.bc - 1)) (c.bs - ((max 4 (w32 (2 * (S.pt_size v0))))).toNat)) (nU (CW.w_bs (CW.w_bc c (c.bc - 1)) (c.bs - ((max 4 (w32 (2 * (S.pt_size v0))))).toNat)).pc v0 (max 4 (w32 (2 * (S.pt_size v0)))))).bc - 1)) ((CW.w_pc (CW.w_bs (CW.w_bc c (c.bc - 1)) (c.bs - ((max 4 (w32 (2 * (S.pt_size v0))))).toNat)) (nU (CW.w_bs (CW.w_bc c (c.bc - 1)) (c.bs - ((max 4 (w32 (2 * (S.pt_size v0))))).toNat)).pc v0 (max 4 (w32 (2 * (S.pt_size v0)))))).bs - ((max 4 (w32 (2 * (S.pt_size v0))))).toNat)).pv v0 (max 4 (w32 (2 * (S.pt_size v0)))))).bc ≤ C0.bc ∧ (CW.w_pv (CW.w_bs (CW.w_bc (CW.w_pc (CW.w_bs (CW.w_bc c (c.bc - 1)) (c.bs - ((max 4 (w32 (2 * (S.pt_size v0))))).toNat)) (nU (CW.w_bs (CW.w_bc c (c.bc - 1)) (c.bs - ((max 4 (w32 (2 * (S.pt_size v0))))).toNat)).pc v0 (max 4 (w32 (2 * (S.pt_size v0)))))) ((CW.w_pc (CW.w_bs (CW.w_bc c (c.bc - 1)) (c.bs - ((max 4 (w32 (2 * (S.pt_size v0))))).toNat)) (nU (CW.w_bs (CW.w_bc c (c.bc - 1)) (c.bs - ((max 4 (w32 (2 * (S.pt_size v0))))).toNat)).pc v0 (max 4 (w32 (2 * (S.pt_size v0)))))).bc - 1)) ((CW.w_pc (CW.w_bs (CW.w_bc c (c.bc - 1)) (c.bs - ((max 4 (w32 (2 * (S.pt_size v0))))).toNat)) (nU (CW.w_bs (CW.w_bc c (c.bc - 1)) (c.bs - ((max 4 (w32 (2 * (S.pt_size v0))))).toNat)).pc v0 (max 4 (w32 (2 * (S.pt_size v0)))))).bs - ((max 4 (w32 (2 * (S.pt_size v0))))).toNat)) (nU (CW.w_bs (CW.w_bc (CW.w_pc (CW.w_bs (CW.w_bc c (c.bc - 1)) (c.bs - ((max 4 (w32 (2 * (S.pt_size v0))))).toNat)) (nU (CW.w_bs (CW.w_bc c (c.bc - 1)) (c.bs - ((max 4 (w32 (2 * (S.pt_size v0))))).toNat)).pc v0 (max 4 (w32 (2 * (S.pt_size v0)))))) ((CW.w_pc (CW.w_bs (CW.w_bc c (c.bc - 1)) (c.bs - ((max 4 (w32 (2 * (S.pt_size v0))))).toNat)) (nU (CW.w_bs (CW.w_bc c (c.bc - 1)) (c.bs - ((max 4 (w32 (2 * (S.pt_size v0))))).toNat)).pc v0 (max 4 (w32 (2 * (S.pt_size v0)))))).bc - 1)) ((CW.w_pc (CW.w_bs (CW.w_bc c (c.bc - 1)) (c.bs - ((max 4 (w32 (2 * (S.pt_size v0))))).toNat)) (nU (CW.w_bs (CW.w_bc c (c.bc - 1)) (c.bs - ((max 4 (w32 (2 * (S.pt_size v0))))).toNat)).pc v0 (max 4 (w32 (2 * (S.pt_size v0)))))).bs - ((max 4 (w32 (2 * (S.pt_size v0))))).toNat)).pv v0 (max 4 (w32 (2 * (S.pt_size v0)))))).bs ≤ C0.bs) ∧ aS A0 (AW.w_us (AW.w_us A (nU A.us v0 (nU (A.us v0) 6 q17))) (nU (AW.w_us A (nU A.us v0 (nU (A.us v0) 6 q17))).us v0 (nU ((AW.w_us A (nU A.us v0 (nU (A.us v0) 6 q17))).us v0) 7 q22))) := ⟨hcc23.1, aS_us hcc23.2 v0 7 q22 (by decide)⟩
    exact jr_lv [1, 2, 3] rfl (B_62 (AW.w_us (AW.w_us A (nU A.us v0 (nU (A.us v0) 6 q17))) (nU (AW.w_us A (nU A.us v0 (nU (A.us v0) 6 q17))).us v0 (nU ((AW.w_us A (nU A.us v0 (nU (A.us v0) 6 q17))).us v0) 7 q22))) (CW.w_pv (CW.w_bs (CW.w_bc (CW.w_pc (CW.w_bs (CW.w_bc c (c.bc - 1)) (c.bs - ((max 4 (w32 (2 * (S.pt_size v0))))).toNat)) (nU (CW.w_bs (CW.w_bc c (c.bc - 1)) (c.bs - ((max 4 (w32 (2 * (S.pt_size v0))))).toNat)).pc v0 (max 4 (w32 (2 * (S.pt_size v0)))))) ((CW.w_pc (CW.w_bs (CW.w_bc c (c.bc - 1)) (c.bs - ((max 4 (w32 (2 * (S.pt_size v0))))).toNat)) (nU (CW.w_bs (CW.w_bc c (c.bc - 1)) (c.bs - ((max 4 (w32 (2 * (S.pt_size v0))))).toNat)).pc v0 (max 4 (w32 (2 * (S.pt_size v0)))))).bc - 1)) ((CW.w_pc (CW.w_bs (CW.w_bc c (c.bc - 1)) (c.bs - ((max 4 (w32 (2 * (S.pt_size v0))))).toNat)) (nU (CW.w_bs (CW.w_bc c (c.bc - 1)) (c.bs - ((max 4 (w32 (2 * (S.pt_size v0))))).toNat)).pc v0 (max 4 (w32 (2 * (S.pt_size v0)))))).bs - ((max 4 (w32 (2 * (S.pt_size v0))))).toNat)) (nU (CW.w_bs (CW.w_bc (CW.w_pc (CW.w_bs (CW.w_bc c (c.bc - 1)) (c.bs - ((max 4 (w32 (2 * (S.pt_size v0))))).toNat)) (nU (CW.w_bs (CW.w_bc c (c.bc - 1)) (c.bs - ((max 4 (w32 (2 * (S.pt_size v0))))).toNat)).pc v0 (max 4 (w32 (2 * (S.pt_size v0)))))) ((CW.w_pc (CW.w_bs (CW.w_bc c (c.bc - 1)) (c.bs - ((max 4 (w32 (2 * (S.pt_size v0))))).toNat)) (nU (CW.w_bs (CW.w_bc c (c.bc - 1)) (c.bs - ((max 4 (w32 (2 * (S.pt_size v0))))).toNat)).pc v0 (max 4 (w32 (2 * (S.pt_size v0)))))).bc - 1)) ((CW.w_pc (CW.w_bs (CW.w_bc c (c.bc - 1)) (c.bs - ((max 4 (w32 (2 * (S.pt_size v0))))).toNat)) (nU (CW.w_bs (CW.w_bc c (c.bc - 1)) (c.bs - ((max 4 (w32 (2 * (S.pt_size v0))))).toNat)).pc v0 (max 4 (w32 (2 * (S.pt_size v0)))))).bs - ((max 4 (w32 (2 * (S.pt_size v0))))).toNat)).pv v0 (max 4 (w32 (2 * (S.pt_size v0)))))) v0 v1 v3 (WS.w_pt_values (WS.w_pt_times S (nU S.pt_times v0 (aK (S.pt_times v0) 0 (c.pc v0) (max 4 (w32 (2 * (S.pt_size v0))))))) (nU S.pt_values v0 (aK (S.pt_values v0) 0 ((CW.w_pc (CW.w_bs (CW.w_bc c (c.bc - 1)) (c.bs - ((max 4 (w32 (2 * (S.pt_size v0))))).toNat)) (nU (CW.w_bs (CW.w_bc c (c.bc - 1)) (c.bs - ((max 4 (w32 (2 * (S.pt_size v0))))).toNat)).pc v0 (max 4 (w32 (2 * (S.pt_size v0)))))).pv v0) (max 4 (w32 (2 * (S.pt_size v0))))))) hcc24 hv0 hs)
  refine jr_widen (cs' := C0.bc - C0.bc) (sl' := C0.bs - C0.bs) (Nat.zero_le _) (Nat.zero_le _) ?_
  show jw X (C0.bc - C0.bc) (C0.bs - C0.bs) (wtL D g A0 C0 S) [(0, .ref (A0.us v0 5)), (1, .long v1), (3, .long v3)] 0 []
  rw [s_Pt_add] at hs
  refine jr_aload_n ok 0 d_Pt_add_0 rfl rfl ?_
  refine jq_get (v := .int (ii (S.pt_size v0))) ok f_Pt_24 (sg_atp (F := serW D A0 C0 S) 5 rfl hv0 5 rfl) rfl d_Pt_add_1 ?_
  refine jr_aload_n ok 0 d_Pt_add_4 rfl rfl ?_
  refine jq_get (v := .ref (A0.us v0 6)) ok f_Pt_9 (sg_atp (F := serW D A0 C0 S) 5 rfl hv0 5 rfl) rfl d_Pt_add_5 ?_
  refine jq_alen_l ok (sg_atp (F := serW D A0 C0 S) 5 rfl hv0 6 rfl) rfl d_Pt_add_8 ?_
  refine jr_wicmp_ge 24 ok rfl rfl d_Pt_add_9 (by decide) (fun c27 => ?_) (fun c27 => ?_)
  · replace hs := oq_pos c27 hs
    exact jr_lv [0, 1, 2] rfl (B_24 A0 C0 v0 v1 v3 S hcc hv0 hs)
  · replace hs := oq_neg c27 hs
    refine jr_aload_n ok 0 d_Pt_add_12 rfl rfl ?_
    refine jq_get (v := .int (ii (S.pt_size v0))) ok f_Pt_24 (sg_atp (F := serW D A0 C0 S) 5 rfl hv0 5 rfl) rfl d_Pt_add_13 ?_
    refine jr_aload_n ok 0 d_Pt_add_16 rfl rfl ?_
    refine jq_get (v := .ref (A0.us v0 7)) ok f_Pt_15 (sg_atp (F := serW D A0 C0 S) 5 rfl hv0 5 rfl) rfl d_Pt_add_17 ?_
    refine jq_alen_l ok (sg_atp (F := serW D A0 C0 S) 5 rfl hv0 7 rfl) rfl d_Pt_add_20 ?_
    refine jr_wicmp_lt 62 ok rfl rfl d_Pt_add_21 (by decide) (fun c28 => ?_) (fun c28 => ?_)
    · replace hs := oq_pos c28 hs
      exact jr_lv [0, 1, 2] rfl (B_62 A0 C0 v0 v1 v3 S hcc hv0 hs)
    · replace hs := oq_neg c28 hs
      exact jr_lv [0, 1, 2] rfl (B_24 A0 C0 v0 v1 v3 S hcc hv0 hs)

def s_St_putPoint (C0 : CW) (S : WS) (v1 : Nat) (v2 : Int64) (v4 : Int64) : Option (Unit × CW × WS) := mb3 (s_Pt_add C0 S v1 v2 v4) (fun r3 e3 S3 => if v1 < e3.N then some ((), e3, WS.w_st_headSize S3 (S3.st_headSize + 1)) else none)
set_option maxHeartbeats 4000000 in
set_option maxRecDepth 100000 in
theorem r_St_putPoint (l : Launch) (D : jd_T) (g : Nat → Nat) (A0 : AW) (C0 : CW) (S : WS) (v1 : Nat) (v2 : Int64) (v4 : Int64) (r : Unit) (c9 : CW) (S9 : WS) (hv1 : v1 < C0.N) (hs : s_St_putPoint C0 S v1 v2 v4 = some (r, c9, S9)) : jgI_C l D y_St_putPoint b_St_putPoint 6 none { frames := 3, cells := C0.bc, slots := C0.bs, locals := 87 } [.ref (g 2), .ref (A0.us v1 5), .long v2, .long v4] (wtL D g A0 C0 S) (fun A : AW => (.returned (none), (c9.bc ≤ C0.bc ∧ c9.bs ≤ C0.bs) ∧ aS A0 A, wtL D g A c9 S9, C0.bc - c9.bc, C0.bs - c9.bs)) := by
  refine jgI_of rfl (Nat.le_of_ble_eq_true rfl) ?_
  intro X hl hR hN ok hI hnm fin
  subst hl
  have hcc : (C0.bc ≤ C0.bc ∧ C0.bs ≤ C0.bs) ∧ aS A0 A0 := ⟨⟨Nat.le_refl _, Nat.le_refl _⟩, fun _ _ _ => rfl⟩
  refine jr_widen (cs' := C0.bc - C0.bc) (sl' := C0.bs - C0.bs) (Nat.zero_le _) (Nat.zero_le _) ?_
  show jw X (C0.bc - C0.bc) (C0.bs - C0.bs) (wtL D g A0 C0 S) [(0, .ref (g 2)), (1, .ref (A0.us v1 5)), (2, .long v2), (4, .long v4)] 0 []
  rw [s_St_putPoint] at hs
  refine jr_aload_n ok 1 d_St_putPoint_0 rfl rfl ?_
  refine jr_lload_n ok 2 d_St_putPoint_1 rfl rfl ?_
  refine jr_lload ok 3 d_St_putPoint_2 rfl ?_
  obtain ⟨r3, e3, S3, hc3, hs⟩ := mb3_some hs
  refine jh_gV0 (Lo := fun A => wtL D g A e3 S3) ok hI hR hcc.1 m_St_65 (r_Pt_add (jx_l X) D g A0 C0 S v1 v2 v4 r3 e3 S3 hv1 hc3) (sg_atp (F := serW D A0 C0 S) 5 rfl hv1 5 rfl) rfl rfl rfl (Nat.le_of_ble_eq_true rfl) ⟨Nat.le_of_ble_eq_true rfl, Nat.le_of_ble_eq_true rfl⟩ d_St_putPoint_4 (fun A3 hcb3 hst3 => ?_)
  have hcc3 : (e3.bc ≤ C0.bc ∧ e3.bs ≤ C0.bs) ∧ aS A0 A3 := ⟨hcb3, aS_tr hcc.2 hst3⟩
  rw [← hst3 v1 5 (by decide)]
  obtain ⟨hb4, hs⟩ := oq_if hs
  show jw X (C0.bc - e3.bc) (C0.bs - e3.bs) (wtL D g A3 e3 S3) [(0, .ref (g 2)), (1, .ref (A3.us v1 5)), (2, .long v2), (4, .long v4)] 7 []
  refine jr_aload_n ok 0 d_St_putPoint_7 rfl rfl ?_
  refine jr_dup rfl ok d_St_putPoint_8 ?_
  refine jr_get (v := .int (ii S3.st_headSize)) ok 3 f_St_37 rfl rfl d_St_putPoint_9 ?_
  refine jr_iconst ok d_St_putPoint_12 ?_
  refine jr_iadd ok d_St_putPoint_13 ?_
  refine jr_put (wtL D g A3 e3 (WS.w_st_headSize S3 (S3.st_headSize + 1))) ok 3 f_St_37 rfl rfl rfl (Nat.le_of_ble_eq_true rfl) rfl d_St_putPoint_14 ?_
  exact jh_vret (ψ := aS A0) (Lf := wtL D g) (bc := CW.bc) (bs := CW.bs) A3 ok fin hcc3 hs d_St_putPoint_17

def q_Gd_shape_91 : Nat → CW → Nat → Int → Int → WS → Option (Unit × CW × WS)
  | 0, _, _, _, _, _ => none
  | n + 1, c, v0, v4, v5, S => if w32 v4 ≤ w32 v5 then some ((), c, S) else if (0 : Int) ≤ v5 ∧ v5 < (c.gd v0 : Int) then (q_Gd_shape_91 n) c v0 v4 (v5 + 1) (WS.w_gd_there S (nU S.gd_there v0 (aU (S.gd_there v0) v5 0))) else none

def q_Gd_shape_88 (c : CW) (v0 : Nat) (v4 : Int) (S : WS) : Option (Unit × CW × WS) := q_Gd_shape_91 fU c v0 v4 0 S

def q_Gd_shape_52 (c : CW) (v0 : Nat) (v4 : Int) (S : WS) : Option (Unit × CW × WS) := if ((0 : Int) ≤ (min (w32 (max (w32 v4) (w32 (2 * (c.gc v0))))) 16384) ∧ (min (w32 (max (w32 v4) (w32 (2 * (c.gc v0))))) 16384) ≤ 67108864) ∧ 1 ≤ c.bc ∧ ((min (w32 (max (w32 v4) (w32 (2 * (c.gc v0))))) 16384)).toNat ≤ c.bs then if ((0 : Int) ≤ (min (w32 (max (w32 v4) (w32 (2 * (c.gc v0))))) 16384) ∧ (min (w32 (max (w32 v4) (w32 (2 * (c.gc v0))))) 16384) ≤ 67108864) ∧ 1 ≤ (CW.w_gc (CW.w_bs (CW.w_bc c (c.bc - 1)) (c.bs - ((min (w32 (max (w32 v4) (w32 (2 * (c.gc v0))))) 16384)).toNat)) (nU (CW.w_bs (CW.w_bc c (c.bc - 1)) (c.bs - ((min (w32 (max (w32 v4) (w32 (2 * (c.gc v0))))) 16384)).toNat)).gc v0 (min (w32 (max (w32 v4) (w32 (2 * (c.gc v0))))) 16384))).bc ∧ ((min (w32 (max (w32 v4) (w32 (2 * (c.gc v0))))) 16384)).toNat ≤ (CW.w_gc (CW.w_bs (CW.w_bc c (c.bc - 1)) (c.bs - ((min (w32 (max (w32 v4) (w32 (2 * (c.gc v0))))) 16384)).toNat)) (nU (CW.w_bs (CW.w_bc c (c.bc - 1)) (c.bs - ((min (w32 (max (w32 v4) (w32 (2 * (c.gc v0))))) 16384)).toNat)).gc v0 (min (w32 (max (w32 v4) (w32 (2 * (c.gc v0))))) 16384))).bs then q_Gd_shape_88 (CW.w_gd (CW.w_bs (CW.w_bc (CW.w_gc (CW.w_bs (CW.w_bc c (c.bc - 1)) (c.bs - ((min (w32 (max (w32 v4) (w32 (2 * (c.gc v0))))) 16384)).toNat)) (nU (CW.w_bs (CW.w_bc c (c.bc - 1)) (c.bs - ((min (w32 (max (w32 v4) (w32 (2 * (c.gc v0))))) 16384)).toNat)).gc v0 (min (w32 (max (w32 v4) (w32 (2 * (c.gc v0))))) 16384))) ((CW.w_gc (CW.w_bs (CW.w_bc c (c.bc - 1)) (c.bs - ((min (w32 (max (w32 v4) (w32 (2 * (c.gc v0))))) 16384)).toNat)) (nU (CW.w_bs (CW.w_bc c (c.bc - 1)) (c.bs - ((min (w32 (max (w32 v4) (w32 (2 * (c.gc v0))))) 16384)).toNat)).gc v0 (min (w32 (max (w32 v4) (w32 (2 * (c.gc v0))))) 16384))).bc - 1)) ((CW.w_gc (CW.w_bs (CW.w_bc c (c.bc - 1)) (c.bs - ((min (w32 (max (w32 v4) (w32 (2 * (c.gc v0))))) 16384)).toNat)) (nU (CW.w_bs (CW.w_bc c (c.bc - 1)) (c.bs - ((min (w32 (max (w32 v4) (w32 (2 * (c.gc v0))))) 16384)).toNat)).gc v0 (min (w32 (max (w32 v4) (w32 (2 * (c.gc v0))))) 16384))).bs - ((min (w32 (max (w32 v4) (w32 (2 * (c.gc v0))))) 16384)).toNat)) (nU (CW.w_bs (CW.w_bc (CW.w_gc (CW.w_bs (CW.w_bc c (c.bc - 1)) (c.bs - ((min (w32 (max (w32 v4) (w32 (2 * (c.gc v0))))) 16384)).toNat)) (nU (CW.w_bs (CW.w_bc c (c.bc - 1)) (c.bs - ((min (w32 (max (w32 v4) (w32 (2 * (c.gc v0))))) 16384)).toNat)).gc v0 (min (w32 (max (w32 v4) (w32 (2 * (c.gc v0))))) 16384))) ((CW.w_gc (CW.w_bs (CW.w_bc c (c.bc - 1)) (c.bs - ((min (w32 (max (w32 v4) (w32 (2 * (c.gc v0))))) 16384)).toNat)) (nU (CW.w_bs (CW.w_bc c (c.bc - 1)) (c.bs - ((min (w32 (max (w32 v4) (w32 (2 * (c.gc v0))))) 16384)).toNat)).gc v0 (min (w32 (max (w32 v4) (w32 (2 * (c.gc v0))))) 16384))).bc - 1)) ((CW.w_gc (CW.w_bs (CW.w_bc c (c.bc - 1)) (c.bs - ((min (w32 (max (w32 v4) (w32 (2 * (c.gc v0))))) 16384)).toNat)) (nU (CW.w_bs (CW.w_bc c (c.bc - 1)) (c.bs - ((min (w32 (max (w32 v4) (w32 (2 * (c.gc v0))))) 16384)).toNat)).gc v0 (min (w32 (max (w32 v4) (w32 (2 * (c.gc v0))))) 16384))).bs - ((min (w32 (max (w32 v4) (w32 (2 * (c.gc v0))))) 16384)).toNat)).gd v0 (min (w32 (max (w32 v4) (w32 (2 * (c.gc v0))))) 16384))) v0 v4 (WS.w_gd_there (WS.w_gd_numbers S (nU S.gd_numbers v0 (fun _ => 0))) (nU S.gd_there v0 (fun _ => 0))) else none else none

def s_Gd_shape (C0 : CW) (S : WS) (v0 : Nat) (v1 : Int) (v2 : Int) (v3 : Int) : Option (Unit × CW × WS) := if v3 = 0 ∨ v3 = 1 then if w32 (C0.gc v0) < w32 (min (w32 (((nU S.gd_lines v0 v1) v0) * ((nU S.gd_windows v0 v2) v0))) 16384) then q_Gd_shape_52 C0 v0 (min (w32 (((nU S.gd_lines v0 v1) v0) * ((nU S.gd_windows v0 v2) v0))) 16384) (WS.w_gd_named (WS.w_gd_windows (WS.w_gd_lines S (nU S.gd_lines v0 v1)) (nU S.gd_windows v0 v2)) (nU S.gd_named v0 v3)) else if w32 (min (w32 (((nU S.gd_lines v0 v1) v0) * ((nU S.gd_windows v0 v2) v0))) 16384) ≤ w32 (C0.gd v0) then q_Gd_shape_88 C0 v0 (min (w32 (((nU S.gd_lines v0 v1) v0) * ((nU S.gd_windows v0 v2) v0))) 16384) (WS.w_gd_named (WS.w_gd_windows (WS.w_gd_lines S (nU S.gd_lines v0 v1)) (nU S.gd_windows v0 v2)) (nU S.gd_named v0 v3)) else q_Gd_shape_52 C0 v0 (min (w32 (((nU S.gd_lines v0 v1) v0) * ((nU S.gd_windows v0 v2) v0))) 16384) (WS.w_gd_named (WS.w_gd_windows (WS.w_gd_lines S (nU S.gd_lines v0 v1)) (nU S.gd_windows v0 v2)) (nU S.gd_named v0 v3)) else none
set_option maxHeartbeats 4000000 in
set_option maxRecDepth 100000 in
theorem r_Gd_shape (l : Launch) (D : jd_T) (g : Nat → Nat) (A0 : AW) (C0 : CW) (S : WS) (v0 : Nat) (v1 : Int) (v2 : Int) (v3 : Int) (r : Unit) (c9 : CW) (S9 : WS) (hv0 : v0 < 19) (hs : s_Gd_shape C0 S v0 v1 v2 v3 = some (r, c9, S9)) : jgI_C l D y_Gd_shape b_Gd_shape 6 none { frames := 1, cells := C0.bc, slots := C0.bs, locals := 30 } [.ref (g (19 + v0)), .int (ii v1), .int (ii v2), .int (ii v3)] (wtL D g A0 C0 S) (fun A : AW => (.returned (none), (c9.bc ≤ C0.bc ∧ c9.bs ≤ C0.bs) ∧ aS A0 A, wtL D g A c9 S9, C0.bc - c9.bc, C0.bs - c9.bs)) := by
  refine jgI_of rfl (Nat.le_of_ble_eq_true rfl) ?_
  intro X hl hR hN ok hI hnm fin
  subst hl
  have hcc : (C0.bc ≤ C0.bc ∧ C0.bs ≤ C0.bs) ∧ aS A0 A0 := ⟨⟨Nat.le_refl _, Nat.le_refl _⟩, fun _ _ _ => rfl⟩
  have B_91 : ∀ (n91 : Nat), ∀ (A : AW) (c : CW) (v0 : Nat) (v4 : Int) (v5 : Int) (S : WS), (c.bc ≤ C0.bc ∧ c.bs ≤ C0.bs) ∧ aS A0 A → v0 < 19 → q_Gd_shape_91 n91 c v0 v4 v5 S = some (r, c9, S9) → jw X (C0.bc - c.bc) (C0.bs - c.bs) (wtL D g A c S) [(0, .ref (g (19 + v0))), (4, .int (ii v4)), (5, .int (ii v5))] 91 [] := by
    intro n91
    induction n91 with
    | zero =>
      intro A c v0 v4 v5 S hcc hv0 hs
      rw [q_Gd_shape_91] at hs; cases hs
    | succ n91 ih91 =>
      intro A c v0 v4 v5 S hcc hv0 hs
      rw [q_Gd_shape_91] at hs
      refine jr_iload ok 2 d_Gd_shape_91 rfl ?_
      refine jr_iload ok 1 d_Gd_shape_93 rfl ?_
      refine jr_wicmp_ge 112 ok rfl rfl d_Gd_shape_95 (by decide) (fun c18 => ?_) (fun c18 => ?_)
      · replace hs := oq_pos c18 hs
        exact jh_vret (ψ := aS A0) (Lf := wtL D g) (bc := CW.bc) (bs := CW.bs) A ok fin hcc hs d_Gd_shape_112
      · replace hs := oq_neg c18 hs
        refine jr_aload_n ok 0 d_Gd_shape_98 rfl rfl ?_
        refine jq_get (v := .ref (A.gt v0)) ok f_Gd_15 (sg_atp (F := grdW D g A c S) 23 rfl hv0 0 rfl) rfl d_Gd_shape_99 ?_
        refine jr_iload ok 2 d_Gd_shape_102 rfl ?_
        refine jr_iconst ok d_Gd_shape_104 ?_
        obtain ⟨hb19, hs⟩ := oq_if hs
        refine jq_zast (wtL D g A c (WS.w_gd_there S (nU S.gd_there v0 (aU (S.gd_there v0) v5 0)))) ok (sg_atp (F := grdW D g A c S) 23 rfl hv0 2 rfl) rfl hb19.1 hb19.2 (by decide +kernel) ⟨grdW D g A c (WS.w_gd_there S (nU S.gd_there v0 (aU (S.gd_there v0) v5 0))), fun j hj => by simp only [grdW, nU, if_neg hj, WS.w_gd_there, WS.gd_numbers, WS.gd_there, WS.gd_lines, WS.gd_windows, WS.gd_named], by simp [grdW, nU, WS.w_gd_there, WS.gd_numbers, WS.gd_there, WS.gd_lines, WS.gd_windows, WS.gd_named] <;> rfl, rfl⟩ d_Gd_shape_105 ?_
        refine jr_iinc [(5, .int (ii (v5 + 1))), (0, .ref (g (19 + v0))), (4, .int (ii v4))] 2 ok d_Gd_shape_106 rfl (by rw [hN]; decide) rfl ?_
        refine jr_goto 91 ok d_Gd_shape_109 (by decide) ?_
        exact jr_lv [1, 2, 0] rfl (ih91 A c v0 v4 (v5 + 1) (WS.w_gd_there S (nU S.gd_there v0 (aU (S.gd_there v0) v5 0))) hcc hv0 hs)
  have B_88 : ∀ (A : AW) (c : CW) (v0 : Nat) (v4 : Int) (S : WS), (c.bc ≤ C0.bc ∧ c.bs ≤ C0.bs) ∧ aS A0 A → v0 < 19 → q_Gd_shape_88 c v0 v4 S = some (r, c9, S9) → jw X (C0.bc - c.bc) (C0.bs - c.bs) (wtL D g A c S) [(0, .ref (g (19 + v0))), (4, .int (ii v4))] 88 [] := by
    intro A c v0 v4 S hcc hv0 hs
    rw [q_Gd_shape_88] at hs
    refine jr_iconst ok d_Gd_shape_88 ?_
    refine jr_istore [(5, .int (ii 0)), (0, .ref (g (19 + v0))), (4, .int (ii v4))] ok d_Gd_shape_89 (by rw [hN]; decide) rfl ?_
    exact jr_lv [1, 2, 0] rfl (B_91 fU A c v0 v4 0 S hcc hv0 hs)
  have B_52 : ∀ (A : AW) (c : CW) (v0 : Nat) (v4 : Int) (S : WS), (c.bc ≤ C0.bc ∧ c.bs ≤ C0.bs) ∧ aS A0 A → v0 < 19 → q_Gd_shape_52 c v0 v4 S = some (r, c9, S9) → jw X (C0.bc - c.bc) (C0.bs - c.bs) (wtL D g A c S) [(0, .ref (g (19 + v0))), (4, .int (ii v4))] 52 [] := by
    intro A c v0 v4 S hcc hv0 hs
    rw [q_Gd_shape_52] at hs
    refine jr_iload ok 1 d_Gd_shape_52 rfl ?_
    refine jr_iconst ok d_Gd_shape_54 ?_
    refine jr_aload_n ok 0 d_Gd_shape_55 rfl rfl ?_
    refine jq_get (v := .ref (A.gn v0)) ok f_Gd_9 (sg_atp (F := grdW D g A c S) 23 rfl hv0 0 rfl) rfl d_Gd_shape_56 ?_
    refine jq_alen_l ok (sg_atp (F := grdW D g A c S) 23 rfl hv0 1 rfl) rfl d_Gd_shape_59 ?_
    refine jr_imul ok d_Gd_shape_60 ?_
    refine jr_wimax ok w_1115 w_657 w_17 w_658 rfl rfl hR ⟨Nat.le_of_ble_eq_true rfl, Nat.le_of_ble_eq_true rfl⟩ ⟨Nat.sub_le _ _, Nat.sub_le _ _⟩ (Nat.le_of_ble_eq_true rfl) d_Gd_shape_61 ?_
    refine jr_sipush ok d_Gd_shape_64 (by decide +kernel) ?_
    refine jr_wimin ok w_1114 w_402 w_17 w_403 rfl (show w32 16384 = 16384 by decide) hR ⟨Nat.le_of_ble_eq_true rfl, Nat.le_of_ble_eq_true rfl⟩ ⟨Nat.sub_le _ _, Nat.sub_le _ _⟩ (Nat.le_of_ble_eq_true rfl) d_Gd_shape_67 ?_
    refine jr_istore [(5, .int (ii (min (w32 (max (w32 v4) (w32 (2 * (c.gc v0))))) 16384))), (0, .ref (g (19 + v0))), (4, .int (ii v4))] ok d_Gd_shape_70 (by rw [hN]; decide) rfl ?_
    refine jr_aload_n ok 1 d_Gd_shape_72 rfl rfl ?_
    refine jr_iload ok 0 d_Gd_shape_73 rfl ?_
    obtain ⟨hb12, hs⟩ := oq_if hs
    refine jq_newGl ok hR hcc.1 w_235 hb12 d_Gd_shape_75 (fun q13 => ?_)
    have hcc14 : ((CW.w_bs (CW.w_bc c (c.bc - 1)) (c.bs - ((min (w32 (max (w32 v4) (w32 (2 * (c.gc v0))))) 16384)).toNat)).bc ≤ C0.bc ∧ (CW.w_bs (CW.w_bc c (c.bc - 1)) (c.bs - ((min (w32 (max (w32 v4) (w32 (2 * (c.gc v0))))) 16384)).toNat)).bs ≤ C0.bs) ∧ aS A0 A := ⟨⟨Nat.le_trans (Nat.sub_le _ _) hcc.1.1, Nat.le_trans (Nat.sub_le _ _) hcc.1.2⟩, hcc.2⟩
    show jw X (C0.bc - (CW.w_bs (CW.w_bc c (c.bc - 1)) (c.bs - ((min (w32 (max (w32 v4) (w32 (2 * (c.gc v0))))) 16384)).toNat)).bc) (C0.bs - (CW.w_bs (CW.w_bc c (c.bc - 1)) (c.bs - ((min (w32 (max (w32 v4) (w32 (2 * (c.gc v0))))) 16384)).toNat)).bs) ((wtL D g A (CW.w_bs (CW.w_bc c (c.bc - 1)) (c.bs - ((min (w32 (max (w32 v4) (w32 (2 * (c.gc v0))))) 16384)).toNat)) S) ++ [al D 2 q13 (min (w32 (max (w32 v4) (w32 (2 * (c.gc v0))))) 16384) (fun _ => 0)]) [(5, .int (ii (min (w32 (max (w32 v4) (w32 (2 * (c.gc v0))))) 16384))), (0, .ref (g (19 + v0))), (4, .int (ii v4))] 77 [.ref q13, .ref (g (19 + v0))]
    refine jq_putP (F := grdW D g A (CW.w_bs (CW.w_bc c (c.bc - 1)) (c.bs - ((min (w32 (max (w32 v4) (w32 (2 * (c.gc v0))))) 16384)).toNat)) S) (F' := grdW D g (AW.w_gn A (nU A.gn v0 q13)) (CW.w_gc (CW.w_bs (CW.w_bc c (c.bc - 1)) (c.bs - ((min (w32 (max (w32 v4) (w32 (2 * (c.gc v0))))) 16384)).toNat)) (nU (CW.w_bs (CW.w_bc c (c.bc - 1)) (c.bs - ((min (w32 (max (w32 v4) (w32 (2 * (c.gc v0))))) 16384)).toNat)).gc v0 (min (w32 (max (w32 v4) (w32 (2 * (c.gc v0))))) 16384))) (WS.w_gd_numbers S (nU S.gd_numbers v0 (fun _ => 0)))) (wtL D g (AW.w_gn A (nU A.gn v0 q13)) (CW.w_gc (CW.w_bs (CW.w_bc c (c.bc - 1)) (c.bs - ((min (w32 (max (w32 v4) (w32 (2 * (c.gc v0))))) 16384)).toNat)) (nU (CW.w_bs (CW.w_bc c (c.bc - 1)) (c.bs - ((min (w32 (max (w32 v4) (w32 (2 * (c.gc v0))))) 16384)).toNat)).gc v0 (min (w32 (max (w32 v4) (w32 (2 * (c.gc v0))))) 16384))) (WS.w_gd_numbers S (nU S.gd_numbers v0 (fun _ => 0)))) 23 0 1 ok f_Gd_9 rfl hv0 rfl rfl rfl rfl (Nat.le_of_ble_eq_true rfl) (fun j hj => by simp only [grdW, nU, if_neg hj, WS.w_gd_numbers, WS.gd_numbers, WS.gd_there, WS.gd_lines, WS.gd_windows, WS.gd_named, AW.us, AW.w_us, AW.gn, AW.gt, AW.w_gn, AW.w_gt, CW.gc, CW.gd, CW.pc, CW.pv, CW.ln, CW.lm, CW.N, CW.bc, CW.bs, CW.w_gc, CW.w_gd, CW.w_pc, CW.w_pv, CW.w_bc, CW.w_bs]) (by simp [grdW, nU, WS.w_gd_numbers, WS.gd_numbers, WS.gd_there, WS.gd_lines, WS.gd_windows, WS.gd_named, AW.us, AW.w_us, AW.gn, AW.gt, AW.w_gn, AW.w_gt, CW.gc, CW.gd, CW.pc, CW.pv, CW.ln, CW.lm, CW.N, CW.bc, CW.bs, CW.w_gc, CW.w_gd, CW.w_pc, CW.w_pv, CW.w_bc, CW.w_bs] <;> rfl) rfl d_Gd_shape_77 ?_
    refine jr_aload_n ok 1 d_Gd_shape_80 rfl rfl ?_
    refine jr_iload ok 0 d_Gd_shape_81 rfl ?_
    obtain ⟨hb15, hs⟩ := oq_if hs
    refine jq_newGz ok hR hcc14.1 w_236 hb15 d_Gd_shape_83 (fun q16 => ?_)
    have hcc17 : ((CW.w_bs (CW.w_bc (CW.w_gc (CW.w_bs (CW.w_bc c (c.bc - 1)) (c.bs - ((min (w32 (max (w32 v4) (w32 (2 * (c.gc v0))))) 16384)).toNat)) (nU (CW.w_bs (CW.w_bc c (c.bc - 1)) (c.bs - ((min (w32 (max (w32 v4) (w32 (2 * (c.gc v0))))) 16384)).toNat)).gc v0 (min (w32 (max (w32 v4) (w32 (2 * (c.gc v0))))) 16384))) ((CW.w_gc (CW.w_bs (CW.w_bc c (c.bc - 1)) (c.bs - ((min (w32 (max (w32 v4) (w32 (2 * (c.gc v0))))) 16384)).toNat)) (nU (CW.w_bs (CW.w_bc c (c.bc - 1)) (c.bs - ((min (w32 (max (w32 v4) (w32 (2 * (c.gc v0))))) 16384)).toNat)).gc v0 (min (w32 (max (w32 v4) (w32 (2 * (c.gc v0))))) 16384))).bc - 1)) ((CW.w_gc (CW.w_bs (CW.w_bc c (c.bc - 1)) (c.bs - ((min (w32 (max (w32 v4) (w32 (2 * (c.gc v0))))) 16384)).toNat)) (nU (CW.w_bs (CW.w_bc c (c.bc - 1)) (c.bs - ((min (w32 (max (w32 v4) (w32 (2 * (c.gc v0))))) 16384)).toNat)).gc v0 (min (w32 (max (w32 v4) (w32 (2 * (c.gc v0))))) 16384))).bs - ((min (w32 (max (w32 v4) (w32 (2 * (c.gc v0))))) 16384)).toNat)).bc ≤ C0.bc ∧ (CW.w_bs (CW.w_bc (CW.w_gc (CW.w_bs (CW.w_bc c (c.bc - 1)) (c.bs - ((min (w32 (max (w32 v4) (w32 (2 * (c.gc v0))))) 16384)).toNat)) (nU (CW.w_bs (CW.w_bc c (c.bc - 1)) (c.bs - ((min (w32 (max (w32 v4) (w32 (2 * (c.gc v0))))) 16384)).toNat)).gc v0 (min (w32 (max (w32 v4) (w32 (2 * (c.gc v0))))) 16384))) ((CW.w_gc (CW.w_bs (CW.w_bc c (c.bc - 1)) (c.bs - ((min (w32 (max (w32 v4) (w32 (2 * (c.gc v0))))) 16384)).toNat)) (nU (CW.w_bs (CW.w_bc c (c.bc - 1)) (c.bs - ((min (w32 (max (w32 v4) (w32 (2 * (c.gc v0))))) 16384)).toNat)).gc v0 (min (w32 (max (w32 v4) (w32 (2 * (c.gc v0))))) 16384))).bc - 1)) ((CW.w_gc (CW.w_bs (CW.w_bc c (c.bc - 1)) (c.bs - ((min (w32 (max (w32 v4) (w32 (2 * (c.gc v0))))) 16384)).toNat)) (nU (CW.w_bs (CW.w_bc c (c.bc - 1)) (c.bs - ((min (w32 (max (w32 v4) (w32 (2 * (c.gc v0))))) 16384)).toNat)).gc v0 (min (w32 (max (w32 v4) (w32 (2 * (c.gc v0))))) 16384))).bs - ((min (w32 (max (w32 v4) (w32 (2 * (c.gc v0))))) 16384)).toNat)).bs ≤ C0.bs) ∧ aS A0 (AW.w_gn A (nU A.gn v0 q13)) := ⟨⟨Nat.le_trans (Nat.sub_le _ _) hcc14.1.1, Nat.le_trans (Nat.sub_le _ _) hcc14.1.2⟩, hcc14.2⟩
    show jw X (C0.bc - (CW.w_bs (CW.w_bc (CW.w_gc (CW.w_bs (CW.w_bc c (c.bc - 1)) (c.bs - ((min (w32 (max (w32 v4) (w32 (2 * (c.gc v0))))) 16384)).toNat)) (nU (CW.w_bs (CW.w_bc c (c.bc - 1)) (c.bs - ((min (w32 (max (w32 v4) (w32 (2 * (c.gc v0))))) 16384)).toNat)).gc v0 (min (w32 (max (w32 v4) (w32 (2 * (c.gc v0))))) 16384))) ((CW.w_gc (CW.w_bs (CW.w_bc c (c.bc - 1)) (c.bs - ((min (w32 (max (w32 v4) (w32 (2 * (c.gc v0))))) 16384)).toNat)) (nU (CW.w_bs (CW.w_bc c (c.bc - 1)) (c.bs - ((min (w32 (max (w32 v4) (w32 (2 * (c.gc v0))))) 16384)).toNat)).gc v0 (min (w32 (max (w32 v4) (w32 (2 * (c.gc v0))))) 16384))).bc - 1)) ((CW.w_gc (CW.w_bs (CW.w_bc c (c.bc - 1)) (c.bs - ((min (w32 (max (w32 v4) (w32 (2 * (c.gc v0))))) 16384)).toNat)) (nU (CW.w_bs (CW.w_bc c (c.bc - 1)) (c.bs - ((min (w32 (max (w32 v4) (w32 (2 * (c.gc v0))))) 16384)).toNat)).gc v0 (min (w32 (max (w32 v4) (w32 (2 * (c.gc v0))))) 16384))).bs - ((min (w32 (max (w32 v4) (w32 (2 * (c.gc v0))))) 16384)).toNat)).bc) (C0.bs - (CW.w_bs (CW.w_bc (CW.w_gc (CW.w_bs (CW.w_bc c (c.bc - 1)) (c.bs - ((min (w32 (max (w32 v4) (w32 (2 * (c.gc v0))))) 16384)).toNat)) (nU (CW.w_bs (CW.w_bc c (c.bc - 1)) (c.bs - ((min (w32 (max (w32 v4) (w32 (2 * (c.gc v0))))) 16384)).toNat)).gc v0 (min (w32 (max (w32 v4) (w32 (2 * (c.gc v0))))) 16384))) ((CW.w_gc (CW.w_bs (CW.w_bc c (c.bc - 1)) (c.bs - ((min (w32 (max (w32 v4) (w32 (2 * (c.gc v0))))) 16384)).toNat)) (nU (CW.w_bs (CW.w_bc c (c.bc - 1)) (c.bs - ((min (w32 (max (w32 v4) (w32 (2 * (c.gc v0))))) 16384)).toNat)).gc v0 (min (w32 (max (w32 v4) (w32 (2 * (c.gc v0))))) 16384))).bc - 1)) ((CW.w_gc (CW.w_bs (CW.w_bc c (c.bc - 1)) (c.bs - ((min (w32 (max (w32 v4) (w32 (2 * (c.gc v0))))) 16384)).toNat)) (nU (CW.w_bs (CW.w_bc c (c.bc - 1)) (c.bs - ((min (w32 (max (w32 v4) (w32 (2 * (c.gc v0))))) 16384)).toNat)).gc v0 (min (w32 (max (w32 v4) (w32 (2 * (c.gc v0))))) 16384))).bs - ((min (w32 (max (w32 v4) (w32 (2 * (c.gc v0))))) 16384)).toNat)).bs) ((wtL D g (AW.w_gn A (nU A.gn v0 q13)) (CW.w_bs (CW.w_bc (CW.w_gc (CW.w_bs (CW.w_bc c (c.bc - 1)) (c.bs - ((min (w32 (max (w32 v4) (w32 (2 * (c.gc v0))))) 16384)).toNat)) (nU (CW.w_bs (CW.w_bc c (c.bc - 1)) (c.bs - ((min (w32 (max (w32 v4) (w32 (2 * (c.gc v0))))) 16384)).toNat)).gc v0 (min (w32 (max (w32 v4) (w32 (2 * (c.gc v0))))) 16384))) ((CW.w_gc (CW.w_bs (CW.w_bc c (c.bc - 1)) (c.bs - ((min (w32 (max (w32 v4) (w32 (2 * (c.gc v0))))) 16384)).toNat)) (nU (CW.w_bs (CW.w_bc c (c.bc - 1)) (c.bs - ((min (w32 (max (w32 v4) (w32 (2 * (c.gc v0))))) 16384)).toNat)).gc v0 (min (w32 (max (w32 v4) (w32 (2 * (c.gc v0))))) 16384))).bc - 1)) ((CW.w_gc (CW.w_bs (CW.w_bc c (c.bc - 1)) (c.bs - ((min (w32 (max (w32 v4) (w32 (2 * (c.gc v0))))) 16384)).toNat)) (nU (CW.w_bs (CW.w_bc c (c.bc - 1)) (c.bs - ((min (w32 (max (w32 v4) (w32 (2 * (c.gc v0))))) 16384)).toNat)).gc v0 (min (w32 (max (w32 v4) (w32 (2 * (c.gc v0))))) 16384))).bs - ((min (w32 (max (w32 v4) (w32 (2 * (c.gc v0))))) 16384)).toNat)) (WS.w_gd_numbers S (nU S.gd_numbers v0 (fun _ => 0)))) ++ [ai D 3 q16 (min (w32 (max (w32 v4) (w32 (2 * (c.gc v0))))) 16384) (fun _ => 0)]) [(5, .int (ii (min (w32 (max (w32 v4) (w32 (2 * (c.gc v0))))) 16384))), (0, .ref (g (19 + v0))), (4, .int (ii v4))] 85 [.ref q16, .ref (g (19 + v0))]
    refine jq_putP (F := grdW D g (AW.w_gn A (nU A.gn v0 q13)) (CW.w_bs (CW.w_bc (CW.w_gc (CW.w_bs (CW.w_bc c (c.bc - 1)) (c.bs - ((min (w32 (max (w32 v4) (w32 (2 * (c.gc v0))))) 16384)).toNat)) (nU (CW.w_bs (CW.w_bc c (c.bc - 1)) (c.bs - ((min (w32 (max (w32 v4) (w32 (2 * (c.gc v0))))) 16384)).toNat)).gc v0 (min (w32 (max (w32 v4) (w32 (2 * (c.gc v0))))) 16384))) ((CW.w_gc (CW.w_bs (CW.w_bc c (c.bc - 1)) (c.bs - ((min (w32 (max (w32 v4) (w32 (2 * (c.gc v0))))) 16384)).toNat)) (nU (CW.w_bs (CW.w_bc c (c.bc - 1)) (c.bs - ((min (w32 (max (w32 v4) (w32 (2 * (c.gc v0))))) 16384)).toNat)).gc v0 (min (w32 (max (w32 v4) (w32 (2 * (c.gc v0))))) 16384))).bc - 1)) ((CW.w_gc (CW.w_bs (CW.w_bc c (c.bc - 1)) (c.bs - ((min (w32 (max (w32 v4) (w32 (2 * (c.gc v0))))) 16384)).toNat)) (nU (CW.w_bs (CW.w_bc c (c.bc - 1)) (c.bs - ((min (w32 (max (w32 v4) (w32 (2 * (c.gc v0))))) 16384)).toNat)).gc v0 (min (w32 (max (w32 v4) (w32 (2 * (c.gc v0))))) 16384))).bs - ((min (w32 (max (w32 v4) (w32 (2 * (c.gc v0))))) 16384)).toNat)) (WS.w_gd_numbers S (nU S.gd_numbers v0 (fun _ => 0)))) (F' := grdW D g (AW.w_gt (AW.w_gn A (nU A.gn v0 q13)) (nU (AW.w_gn A (nU A.gn v0 q13)).gt v0 q16)) (CW.w_gd (CW.w_bs (CW.w_bc (CW.w_gc (CW.w_bs (CW.w_bc c (c.bc - 1)) (c.bs - ((min (w32 (max (w32 v4) (w32 (2 * (c.gc v0))))) 16384)).toNat)) (nU (CW.w_bs (CW.w_bc c (c.bc - 1)) (c.bs - ((min (w32 (max (w32 v4) (w32 (2 * (c.gc v0))))) 16384)).toNat)).gc v0 (min (w32 (max (w32 v4) (w32 (2 * (c.gc v0))))) 16384))) ((CW.w_gc (CW.w_bs (CW.w_bc c (c.bc - 1)) (c.bs - ((min (w32 (max (w32 v4) (w32 (2 * (c.gc v0))))) 16384)).toNat)) (nU (CW.w_bs (CW.w_bc c (c.bc - 1)) (c.bs - ((min (w32 (max (w32 v4) (w32 (2 * (c.gc v0))))) 16384)).toNat)).gc v0 (min (w32 (max (w32 v4) (w32 (2 * (c.gc v0))))) 16384))).bc - 1)) ((CW.w_gc (CW.w_bs (CW.w_bc c (c.bc - 1)) (c.bs - ((min (w32 (max (w32 v4) (w32 (2 * (c.gc v0))))) 16384)).toNat)) (nU (CW.w_bs (CW.w_bc c (c.bc - 1)) (c.bs - ((min (w32 (max (w32 v4) (w32 (2 * (c.gc v0))))) 16384)).toNat)).gc v0 (min (w32 (max (w32 v4) (w32 (2 * (c.gc v0))))) 16384))).bs - ((min (w32 (max (w32 v4) (w32 (2 * (c.gc v0))))) 16384)).toNat)) (nU (CW.w_bs (CW.w_bc (CW.w_gc (CW.w_bs (CW.w_bc c (c.bc - 1)) (c.bs - ((min (w32 (max (w32 v4) (w32 (2 * (c.gc v0))))) 16384)).toNat)) (nU (CW.w_bs (CW.w_bc c (c.bc - 1)) (c.bs - ((min (w32 (max (w32 v4) (w32 (2 * (c.gc v0))))) 16384)).toNat)).gc v0 (min (w32 (max (w32 v4) (w32 (2 * (c.gc v0))))) 16384))) ((CW.w_gc (CW.w_bs (CW.w_bc c (c.bc - 1)) (c.bs - ((min (w32 (max (w32 v4) (w32 (2 * (c.gc v0))))) 16384)).toNat)) (nU (CW.w_bs (CW.w_bc c (c.bc - 1)) (c.bs - ((min (w32 (max (w32 v4) (w32 (2 * (c.gc v0))))) 16384)).toNat)).gc v0 (min (w32 (max (w32 v4) (w32 (2 * (c.gc v0))))) 16384))).bc - 1)) ((CW.w_gc (CW.w_bs (CW.w_bc c (c.bc - 1)) (c.bs - ((min (w32 (max (w32 v4) (w32 (2 * (c.gc v0))))) 16384)).toNat)) (nU (CW.w_bs (CW.w_bc c (c.bc - 1)) (c.bs - ((min (w32 (max (w32 v4) (w32 (2 * (c.gc v0))))) 16384)).toNat)).gc v0 (min (w32 (max (w32 v4) (w32 (2 * (c.gc v0))))) 16384))).bs - ((min (w32 (max (w32 v4) (w32 (2 * (c.gc v0))))) 16384)).toNat)).gd v0 (min (w32 (max (w32 v4) (w32 (2 * (c.gc v0))))) 16384))) (WS.w_gd_there (WS.w_gd_numbers S (nU S.gd_numbers v0 (fun _ => 0))) (nU S.gd_there v0 (fun _ => 0)))) (wtL D g (AW.w_gt (AW.w_gn A (nU A.gn v0 q13)) (nU (AW.w_gn A (nU A.gn v0 q13)).gt v0 q16)) (CW.w_gd (CW.w_bs (CW.w_bc (CW.w_gc (CW.w_bs (CW.w_bc c (c.bc - 1)) (c.bs - ((min (w32 (max (w32 v4) (w32 (2 * (c.gc v0))))) 16384)).toNat)) (nU (CW.w_bs (CW.w_bc c (c.bc - 1)) (c.bs - ((min (w32 (max (w32 v4) (w32 (2 * (c.gc v0))))) 16384)).toNat)).gc v0 (min (w32 (max (w32 v4) (w32 (2 * (c.gc v0))))) 16384))) ((CW.w_gc (CW.w_bs (CW.w_bc c (c.bc - 1)) (c.bs - ((min (w32 (max (w32 v4) (w32 (2 * (c.gc v0))))) 16384)).toNat)) (nU (CW.w_bs (CW.w_bc c (c.bc - 1)) (c.bs - ((min (w32 (max (w32 v4) (w32 (2 * (c.gc v0))))) 16384)).toNat)).gc v0 (min (w32 (max (w32 v4) (w32 (2 * (c.gc v0))))) 16384))).bc - 1)) ((CW.w_gc (CW.w_bs (CW.w_bc c (c.bc - 1)) (c.bs - ((min (w32 (max (w32 v4) (w32 (2 * (c.gc v0))))) 16384)).toNat)) (nU (CW.w_bs (CW.w_bc c (c.bc - 1)) (c.bs - ((min (w32 (max (w32 v4) (w32 (2 * (c.gc v0))))) 16384)).toNat)).gc v0 (min (w32 (max (w32 v4) (w32 (2 * (c.gc v0))))) 16384))).bs - ((min (w32 (max (w32 v4) (w32 (2 * (c.gc v0))))) 16384)).toNat)) (nU (CW.w_bs (CW.w_bc (CW.w_gc (CW.w_bs (CW.w_bc c (c.bc - 1)) (c.bs - ((min (w32 (max (w32 v4) (w32 (2 * (c.gc v0))))) 16384)).toNat)) (nU (CW.w_bs (CW.w_bc c (c.bc - 1)) (c.bs - ((min (w32 (max (w32 v4) (w32 (2 * (c.gc v0))))) 16384)).toNat)).gc v0 (min (w32 (max (w32 v4) (w32 (2 * (c.gc v0))))) 16384))) ((CW.w_gc (CW.w_bs (CW.w_bc c (c.bc - 1)) (c.bs - ((min (w32 (max (w32 v4) (w32 (2 * (c.gc v0))))) 16384)).toNat)) (nU (CW.w_bs (CW.w_bc c (c.bc - 1)) (c.bs - ((min (w32 (max (w32 v4) (w32 (2 * (c.gc v0))))) 16384)).toNat)).gc v0 (min (w32 (max (w32 v4) (w32 (2 * (c.gc v0))))) 16384))).bc - 1)) ((CW.w_gc (CW.w_bs (CW.w_bc c (c.bc - 1)) (c.bs - ((min (w32 (max (w32 v4) (w32 (2 * (c.gc v0))))) 16384)).toNat)) (nU (CW.w_bs (CW.w_bc c (c.bc - 1)) (c.bs - ((min (w32 (max (w32 v4) (w32 (2 * (c.gc v0))))) 16384)).toNat)).gc v0 (min (w32 (max (w32 v4) (w32 (2 * (c.gc v0))))) 16384))).bs - ((min (w32 (max (w32 v4) (w32 (2 * (c.gc v0))))) 16384)).toNat)).gd v0 (min (w32 (max (w32 v4) (w32 (2 * (c.gc v0))))) 16384))) (WS.w_gd_there (WS.w_gd_numbers S (nU S.gd_numbers v0 (fun _ => 0))) (nU S.gd_there v0 (fun _ => 0)))) 23 0 2 ok f_Gd_15 rfl hv0 rfl rfl rfl rfl (Nat.le_of_ble_eq_true rfl) (fun j hj => by simp only [grdW, nU, if_neg hj, WS.w_gd_numbers, WS.w_gd_there, WS.gd_numbers, WS.gd_there, WS.gd_lines, WS.gd_windows, WS.gd_named, AW.us, AW.w_us, AW.gn, AW.gt, AW.w_gn, AW.w_gt, CW.gc, CW.gd, CW.pc, CW.pv, CW.ln, CW.lm, CW.N, CW.bc, CW.bs, CW.w_gc, CW.w_gd, CW.w_pc, CW.w_pv, CW.w_bc, CW.w_bs]) (by simp [grdW, nU, WS.w_gd_numbers, WS.w_gd_there, WS.gd_numbers, WS.gd_there, WS.gd_lines, WS.gd_windows, WS.gd_named, AW.us, AW.w_us, AW.gn, AW.gt, AW.w_gn, AW.w_gt, CW.gc, CW.gd, CW.pc, CW.pv, CW.ln, CW.lm, CW.N, CW.bc, CW.bs, CW.w_gc, CW.w_gd, CW.w_pc, CW.w_pv, CW.w_bc, CW.w_bs] <;> rfl) rfl d_Gd_shape_85 ?_
    exact jr_lv [1, 2] rfl (B_88 (AW.w_gt (AW.w_gn A (nU A.gn v0 q13)) (nU (AW.w_gn A (nU A.gn v0 q13)).gt v0 q16)) (CW.w_gd (CW.w_bs (CW.w_bc (CW.w_gc (CW.w_bs (CW.w_bc c (c.bc - 1)) (c.bs - ((min (w32 (max (w32 v4) (w32 (2 * (c.gc v0))))) 16384)).toNat)) (nU (CW.w_bs (CW.w_bc c (c.bc - 1)) (c.bs - ((min (w32 (max (w32 v4) (w32 (2 * (c.gc v0))))) 16384)).toNat)).gc v0 (min (w32 (max (w32 v4) (w32 (2 * (c.gc v0))))) 16384))) ((CW.w_gc (CW.w_bs (CW.w_bc c (c.bc - 1)) (c.bs - ((min (w32 (max (w32 v4) (w32 (2 * (c.gc v0))))) 16384)).toNat)) (nU (CW.w_bs (CW.w_bc c (c.bc - 1)) (c.bs - ((min (w32 (max (w32 v4) (w32 (2 * (c.gc v0))))) 16384)).toNat)).gc v0 (min (w32 (max (w32 v4) (w32 (2 * (c.gc v0))))) 16384))).bc - 1)) ((CW.w_gc (CW.w_bs (CW.w_bc c (c.bc - 1)) (c.bs - ((min (w32 (max (w32 v4) (w32 (2 * (c.gc v0))))) 16384)).toNat)) (nU (CW.w_bs (CW.w_bc c (c.bc - 1)) (c.bs - ((min (w32 (max (w32 v4) (w32 (2 * (c.gc v0))))) 16384)).toNat)).gc v0 (min (w32 (max (w32 v4) (w32 (2 * (c.gc v0))))) 16384))).bs - ((min (w32 (max (w32 v4) (w32 (2 * (c.gc v0))))) 16384)).toNat)) (nU (CW.w_bs (CW.w_bc (CW.w_gc (CW.w_bs (CW.w_bc c (c.bc - 1)) (c.bs - ((min (w32 (max (w32 v4) (w32 (2 * (c.gc v0))))) 16384)).toNat)) (nU (CW.w_bs (CW.w_bc c (c.bc - 1)) (c.bs - ((min (w32 (max (w32 v4) (w32 (2 * (c.gc v0))))) 16384)).toNat)).gc v0 (min (w32 (max (w32 v4) (w32 (2 * (c.gc v0))))) 16384))) ((CW.w_gc (CW.w_bs (CW.w_bc c (c.bc - 1)) (c.bs - ((min (w32 (max (w32 v4) (w32 (2 * (c.gc v0))))) 16384)).toNat)) (nU (CW.w_bs (CW.w_bc c (c.bc - 1)) (c.bs - ((min (w32 (max (w32 v4) (w32 (2 * (c.gc v0))))) 16384)).toNat)).gc v0 (min (w32 (max (w32 v4) (w32 (2 * (c.gc v0))))) 16384))).bc - 1)) ((CW.w_gc (CW.w_bs (CW.w_bc c (c.bc - 1)) (c.bs - ((min (w32 (max (w32 v4) (w32 (2 * (c.gc v0))))) 16384)).toNat)) (nU (CW.w_bs (CW.w_bc c (c.bc - 1)) (c.bs - ((min (w32 (max (w32 v4) (w32 (2 * (c.gc v0))))) 16384)).toNat)).gc v0 (min (w32 (max (w32 v4) (w32 (2 * (c.gc v0))))) 16384))).bs - ((min (w32 (max (w32 v4) (w32 (2 * (c.gc v0))))) 16384)).toNat)).gd v0 (min (w32 (max (w32 v4) (w32 (2 * (c.gc v0))))) 16384))) v0 v4 (WS.w_gd_there (WS.w_gd_numbers S (nU S.gd_numbers v0 (fun _ => 0))) (nU S.gd_there v0 (fun _ => 0))) hcc17 hv0 hs)
  refine jr_widen (cs' := C0.bc - C0.bc) (sl' := C0.bs - C0.bs) (Nat.zero_le _) (Nat.zero_le _) ?_
  show jw X (C0.bc - C0.bc) (C0.bs - C0.bs) (wtL D g A0 C0 S) [(0, .ref (g (19 + v0))), (1, .int (ii v1)), (2, .int (ii v2)), (3, .int (ii v3))] 0 []
  rw [s_Gd_shape] at hs
  refine jr_aload_n ok 0 d_Gd_shape_0 rfl rfl ?_
  refine jr_iload_n ok 1 d_Gd_shape_1 rfl rfl ?_
  refine jq_put (wtL D g A0 C0 (WS.w_gd_lines S (nU S.gd_lines v0 v1))) ok f_Gd_19 (sg_atp (F := grdW D g A0 C0 S) 23 rfl hv0 0 rfl) rfl rfl (Nat.le_of_ble_eq_true rfl) ⟨grdW D g A0 C0 (WS.w_gd_lines S (nU S.gd_lines v0 v1)), fun j hj => by simp only [grdW, nU, if_neg hj, WS.w_gd_lines, WS.gd_numbers, WS.gd_there, WS.gd_lines, WS.gd_windows, WS.gd_named], by simp [grdW, nU, WS.w_gd_lines, WS.gd_numbers, WS.gd_there, WS.gd_lines, WS.gd_windows, WS.gd_named] <;> rfl, rfl⟩ d_Gd_shape_2 ?_
  refine jr_aload_n ok 0 d_Gd_shape_5 rfl rfl ?_
  refine jr_iload_n ok 2 d_Gd_shape_6 rfl rfl ?_
  refine jq_put (wtL D g A0 C0 (WS.w_gd_windows (WS.w_gd_lines S (nU S.gd_lines v0 v1)) (nU S.gd_windows v0 v2))) ok f_Gd_23 (sg_atp (F := grdW D g A0 C0 (WS.w_gd_lines S (nU S.gd_lines v0 v1))) 23 rfl hv0 0 rfl) rfl rfl (Nat.le_of_ble_eq_true rfl) ⟨grdW D g A0 C0 (WS.w_gd_windows (WS.w_gd_lines S (nU S.gd_lines v0 v1)) (nU S.gd_windows v0 v2)), fun j hj => by simp only [grdW, nU, if_neg hj, WS.w_gd_lines, WS.w_gd_windows, WS.gd_numbers, WS.gd_there, WS.gd_lines, WS.gd_windows, WS.gd_named], by simp [grdW, nU, WS.w_gd_lines, WS.w_gd_windows, WS.gd_numbers, WS.gd_there, WS.gd_lines, WS.gd_windows, WS.gd_named] <;> rfl, rfl⟩ d_Gd_shape_7 ?_
  refine jr_aload_n ok 0 d_Gd_shape_10 rfl rfl ?_
  refine jr_iload_n ok 3 d_Gd_shape_11 rfl rfl ?_
  obtain ⟨hb20, hs⟩ := oq_if hs
  refine jq_put (wtL D g A0 C0 (WS.w_gd_named (WS.w_gd_windows (WS.w_gd_lines S (nU S.gd_lines v0 v1)) (nU S.gd_windows v0 v2)) (nU S.gd_named v0 v3))) ok f_Gd_26 (sg_atp (F := grdW D g A0 C0 (WS.w_gd_windows (WS.w_gd_lines S (nU S.gd_lines v0 v1)) (nU S.gd_windows v0 v2))) 23 rfl hv0 0 rfl) (nz_b hb20) (fit_z hb20) (Nat.le_of_ble_eq_true rfl) ⟨grdW D g A0 C0 (WS.w_gd_named (WS.w_gd_windows (WS.w_gd_lines S (nU S.gd_lines v0 v1)) (nU S.gd_windows v0 v2)) (nU S.gd_named v0 v3)), fun j hj => by simp only [grdW, nU, if_neg hj, WS.w_gd_lines, WS.w_gd_windows, WS.w_gd_named, WS.gd_numbers, WS.gd_there, WS.gd_lines, WS.gd_windows, WS.gd_named], by simp [grdW, nU, WS.w_gd_lines, WS.w_gd_windows, WS.w_gd_named, WS.gd_numbers, WS.gd_there, WS.gd_lines, WS.gd_windows, WS.gd_named] <;> rfl, rfl⟩ d_Gd_shape_12 ?_
  refine jr_aload_n ok 0 d_Gd_shape_15 rfl rfl ?_
  refine jq_get (v := .int (ii ((nU S.gd_lines v0 v1) v0))) ok f_Gd_19 (sg_atp (F := grdW D g A0 C0 (WS.w_gd_named (WS.w_gd_windows (WS.w_gd_lines S (nU S.gd_lines v0 v1)) (nU S.gd_windows v0 v2)) (nU S.gd_named v0 v3))) 23 rfl hv0 0 rfl) rfl d_Gd_shape_16 ?_
  refine jr_aload_n ok 0 d_Gd_shape_19 rfl rfl ?_
  refine jq_get (v := .int (ii ((nU S.gd_windows v0 v2) v0))) ok f_Gd_23 (sg_atp (F := grdW D g A0 C0 (WS.w_gd_named (WS.w_gd_windows (WS.w_gd_lines S (nU S.gd_lines v0 v1)) (nU S.gd_windows v0 v2)) (nU S.gd_named v0 v3))) 23 rfl hv0 0 rfl) rfl d_Gd_shape_20 ?_
  refine jr_imul ok d_Gd_shape_23 ?_
  refine jr_sipush ok d_Gd_shape_24 (by decide +kernel) ?_
  refine jr_wimin ok w_1114 w_402 w_17 w_403 rfl (show w32 16384 = 16384 by decide) hR ⟨Nat.le_of_ble_eq_true rfl, Nat.le_of_ble_eq_true rfl⟩ ⟨Nat.sub_le _ _, Nat.sub_le _ _⟩ (Nat.le_of_ble_eq_true rfl) d_Gd_shape_27 ?_
  refine jr_istore [(4, .int (ii (min (w32 (((nU S.gd_lines v0 v1) v0) * ((nU S.gd_windows v0 v2) v0))) 16384))), (0, .ref (g (19 + v0))), (1, .int (ii v1)), (2, .int (ii v2)), (3, .int (ii v3))] ok d_Gd_shape_30 (by rw [hN]; decide) rfl ?_
  refine jr_iload ok 0 d_Gd_shape_32 rfl ?_
  refine jr_aload_n ok 1 d_Gd_shape_34 rfl rfl ?_
  refine jq_get (v := .ref (A0.gn v0)) ok f_Gd_9 (sg_atp (F := grdW D g A0 C0 (WS.w_gd_named (WS.w_gd_windows (WS.w_gd_lines S (nU S.gd_lines v0 v1)) (nU S.gd_windows v0 v2)) (nU S.gd_named v0 v3))) 23 rfl hv0 0 rfl) rfl d_Gd_shape_35 ?_
  refine jq_alen_l ok (sg_atp (F := grdW D g A0 C0 (WS.w_gd_named (WS.w_gd_windows (WS.w_gd_lines S (nU S.gd_lines v0 v1)) (nU S.gd_windows v0 v2)) (nU S.gd_named v0 v3))) 23 rfl hv0 1 rfl) rfl d_Gd_shape_38 ?_
  refine jr_wicmp_gt 52 ok rfl rfl d_Gd_shape_39 (by decide) (fun c21 => ?_) (fun c21 => ?_)
  · replace hs := oq_pos c21 hs
    exact jr_lv [1, 0] rfl (B_52 A0 C0 v0 (min (w32 (((nU S.gd_lines v0 v1) v0) * ((nU S.gd_windows v0 v2) v0))) 16384) (WS.w_gd_named (WS.w_gd_windows (WS.w_gd_lines S (nU S.gd_lines v0 v1)) (nU S.gd_windows v0 v2)) (nU S.gd_named v0 v3)) hcc hv0 hs)
  · replace hs := oq_neg c21 hs
    refine jr_iload ok 0 d_Gd_shape_42 rfl ?_
    refine jr_aload_n ok 1 d_Gd_shape_44 rfl rfl ?_
    refine jq_get (v := .ref (A0.gt v0)) ok f_Gd_15 (sg_atp (F := grdW D g A0 C0 (WS.w_gd_named (WS.w_gd_windows (WS.w_gd_lines S (nU S.gd_lines v0 v1)) (nU S.gd_windows v0 v2)) (nU S.gd_named v0 v3))) 23 rfl hv0 0 rfl) rfl d_Gd_shape_45 ?_
    refine jq_alen_i ok (sg_atp (F := grdW D g A0 C0 (WS.w_gd_named (WS.w_gd_windows (WS.w_gd_lines S (nU S.gd_lines v0 v1)) (nU S.gd_windows v0 v2)) (nU S.gd_named v0 v3))) 23 rfl hv0 2 rfl) rfl d_Gd_shape_48 ?_
    refine jr_wicmp_le 88 ok rfl rfl d_Gd_shape_49 (by decide) (fun c22 => ?_) (fun c22 => ?_)
    · replace hs := oq_pos c22 hs
      exact jr_lv [1, 0] rfl (B_88 A0 C0 v0 (min (w32 (((nU S.gd_lines v0 v1) v0) * ((nU S.gd_windows v0 v2) v0))) 16384) (WS.w_gd_named (WS.w_gd_windows (WS.w_gd_lines S (nU S.gd_lines v0 v1)) (nU S.gd_windows v0 v2)) (nU S.gd_named v0 v3)) hcc hv0 hs)
    · replace hs := oq_neg c22 hs
      exact jr_lv [1, 0] rfl (B_52 A0 C0 v0 (min (w32 (((nU S.gd_lines v0 v1) v0) * ((nU S.gd_windows v0 v2) v0))) 16384) (WS.w_gd_named (WS.w_gd_windows (WS.w_gd_lines S (nU S.gd_lines v0 v1)) (nU S.gd_windows v0 v2)) (nU S.gd_named v0 v3)) hcc hv0 hs)

def s_Ev_makeMoments (C0 : CW) (S : WS) (v1 : Int) : Option (Unit × CW × WS) := if w32 v1 ≤ w32 C0.mo then some ((), C0, S) else if ((0 : Int) ≤ (max (w32 v1) (w32 (min (w32 (2 * C0.mo)) 16384))) ∧ (max (w32 v1) (w32 (min (w32 (2 * C0.mo)) 16384))) ≤ 67108864) ∧ 1 ≤ C0.bc ∧ ((max (w32 v1) (w32 (min (w32 (2 * C0.mo)) 16384)))).toNat ≤ C0.bs then some ((), (CW.w_mo (CW.w_bs (CW.w_bc C0 (C0.bc - 1)) (C0.bs - ((max (w32 v1) (w32 (min (w32 (2 * C0.mo)) 16384)))).toNat)) (max (w32 v1) (w32 (min (w32 (2 * C0.mo)) 16384)))), WS.w_ev_moments S (fun _ => 0)) else none
set_option maxHeartbeats 4000000 in
set_option maxRecDepth 100000 in
theorem r_Ev_makeMoments (l : Launch) (D : jd_T) (g : Nat → Nat) (A0 : AW) (C0 : CW) (S : WS) (v1 : Int) (r : Unit) (c9 : CW) (S9 : WS)  (hs : s_Ev_makeMoments C0 S v1 = some (r, c9, S9)) : jgI_C l D y_Ev_makeMoments b_Ev_makeMoments 2 none { frames := 1, cells := C0.bc, slots := C0.bs, locals := 30 } [.ref (g 17), .int (ii v1)] (wtL D g A0 C0 S) (fun A : AW => (.returned (none), (c9.bc ≤ C0.bc ∧ c9.bs ≤ C0.bs) ∧ aS A0 A, wtL D g A c9 S9, C0.bc - c9.bc, C0.bs - c9.bs)) := by
  refine jgI_of rfl (Nat.le_of_ble_eq_true rfl) ?_
  intro X hl hR hN ok hI hnm fin
  subst hl
  have hcc : (C0.bc ≤ C0.bc ∧ C0.bs ≤ C0.bs) ∧ aS A0 A0 := ⟨⟨Nat.le_refl _, Nat.le_refl _⟩, fun _ _ _ => rfl⟩
  refine jr_widen (cs' := C0.bc - C0.bc) (sl' := C0.bs - C0.bs) (Nat.zero_le _) (Nat.zero_le _) ?_
  show jw X (C0.bc - C0.bc) (C0.bs - C0.bs) (wtL D g A0 C0 S) [(0, .ref (g 17)), (1, .int (ii v1))] 0 []
  rw [s_Ev_makeMoments] at hs
  refine jr_iload_n ok 1 d_Ev_makeMoments_0 rfl rfl ?_
  refine jr_aload_n ok 0 d_Ev_makeMoments_1 rfl rfl ?_
  refine jr_get (v := .ref A0.ma) ok 20 f_Ev_17 rfl rfl d_Ev_makeMoments_2 ?_
  refine jr_alen_l ok 22 rfl rfl d_Ev_makeMoments_5 ?_
  refine jr_wicmp_le 32 ok rfl rfl d_Ev_makeMoments_6 (by decide) (fun c5 => ?_) (fun c5 => ?_)
  · replace hs := oq_pos c5 hs
    exact jh_vret (ψ := aS A0) (Lf := wtL D g) (bc := CW.bc) (bs := CW.bs) A0 ok fin hcc hs d_Ev_makeMoments_32
  · replace hs := oq_neg c5 hs
    refine jr_aload_n ok 0 d_Ev_makeMoments_9 rfl rfl ?_
    refine jr_iload_n ok 1 d_Ev_makeMoments_10 rfl rfl ?_
    refine jr_iconst ok d_Ev_makeMoments_11 ?_
    refine jr_aload_n ok 0 d_Ev_makeMoments_12 rfl rfl ?_
    refine jr_get (v := .ref A0.ma) ok 20 f_Ev_17 rfl rfl d_Ev_makeMoments_13 ?_
    refine jr_alen_l ok 22 rfl rfl d_Ev_makeMoments_16 ?_
    refine jr_imul ok d_Ev_makeMoments_17 ?_
    refine jr_sipush ok d_Ev_makeMoments_18 (by decide +kernel) ?_
    refine jr_wimin ok w_1141 w_402 w_17 w_403 rfl (show w32 16384 = 16384 by decide) hR ⟨Nat.le_of_ble_eq_true rfl, Nat.le_of_ble_eq_true rfl⟩ ⟨Nat.sub_le _ _, Nat.sub_le _ _⟩ (Nat.le_of_ble_eq_true rfl) d_Ev_makeMoments_21 ?_
    refine jr_wimax ok w_1095 w_657 w_17 w_658 rfl rfl hR ⟨Nat.le_of_ble_eq_true rfl, Nat.le_of_ble_eq_true rfl⟩ ⟨Nat.sub_le _ _, Nat.sub_le _ _⟩ (Nat.le_of_ble_eq_true rfl) d_Ev_makeMoments_24 ?_
    obtain ⟨hb6, hs⟩ := oq_if hs
    refine jq_newGl ok hR hcc.1 w_235 hb6 d_Ev_makeMoments_27 (fun q7 => ?_)
    have hcc8 : ((CW.w_bs (CW.w_bc C0 (C0.bc - 1)) (C0.bs - ((max (w32 v1) (w32 (min (w32 (2 * C0.mo)) 16384)))).toNat)).bc ≤ C0.bc ∧ (CW.w_bs (CW.w_bc C0 (C0.bc - 1)) (C0.bs - ((max (w32 v1) (w32 (min (w32 (2 * C0.mo)) 16384)))).toNat)).bs ≤ C0.bs) ∧ aS A0 A0 := ⟨⟨Nat.le_trans (Nat.sub_le _ _) hcc.1.1, Nat.le_trans (Nat.sub_le _ _) hcc.1.2⟩, hcc.2⟩
    show jw X (C0.bc - (CW.w_bs (CW.w_bc C0 (C0.bc - 1)) (C0.bs - ((max (w32 v1) (w32 (min (w32 (2 * C0.mo)) 16384)))).toNat)).bc) (C0.bs - (CW.w_bs (CW.w_bc C0 (C0.bc - 1)) (C0.bs - ((max (w32 v1) (w32 (min (w32 (2 * C0.mo)) 16384)))).toNat)).bs) ((wtL D g A0 (CW.w_bs (CW.w_bc C0 (C0.bc - 1)) (C0.bs - ((max (w32 v1) (w32 (min (w32 (2 * C0.mo)) 16384)))).toNat)) S) ++ [al D 2 q7 (max (w32 v1) (w32 (min (w32 (2 * C0.mo)) 16384))) (fun _ => 0)]) [(0, .ref (g 17)), (1, .int (ii v1))] 29 [.ref q7, .ref (g 17)]
    refine jq_putA (wtL D g (AW.w_ma A0 q7) (CW.w_mo (CW.w_bs (CW.w_bc C0 (C0.bc - 1)) (C0.bs - ((max (w32 v1) (w32 (min (w32 (2 * C0.mo)) 16384)))).toNat)) (max (w32 v1) (w32 (min (w32 (2 * C0.mo)) 16384)))) (WS.w_ev_moments S (fun _ => 0))) 20 22 ok f_Ev_17 rfl rfl rfl rfl (Nat.le_of_ble_eq_true rfl) rfl d_Ev_makeMoments_29 ?_
    exact jh_vret (ψ := aS A0) (Lf := wtL D g) (bc := CW.bc) (bs := CW.bs) (AW.w_ma A0 q7) ok fin hcc8 hs d_Ev_makeMoments_32

def s_Pg_addNumber (C0 : CW) (S : WS) (v1 : Int64) : Option (Unit × CW × WS) := mb3 (s_Pg_add C0 S 302) (fun r4 e4 S4 => mb3 (s_Pg_add e4 S4 ((v1 >>> ((ii 32).toInt64 &&& 63)).toInt)) (fun r5 e5 S5 => mb3 (s_Pg_add e5 S5 v1.toInt) (fun r6 e6 S6 => some ((), e6, S6))))
set_option maxHeartbeats 4000000 in
set_option maxRecDepth 100000 in
theorem r_Pg_addNumber (l : Launch) (D : jd_T) (g : Nat → Nat) (A0 : AW) (C0 : CW) (S : WS) (v1 : Int64) (r : Unit) (c9 : CW) (S9 : WS)  (hs : s_Pg_addNumber C0 S v1 = some (r, c9, S9)) : jgI_C l D y_Pg_addNumber b_Pg_addNumber 3 none { frames := 3, cells := C0.bc, slots := C0.bs, locals := 83 } [.ref (g 9), .long v1] (wtL D g A0 C0 S) (fun A : AW => (.returned (none), (c9.bc ≤ C0.bc ∧ c9.bs ≤ C0.bs) ∧ aS A0 A, wtL D g A c9 S9, C0.bc - c9.bc, C0.bs - c9.bs)) := by
  refine jgI_of rfl (Nat.le_of_ble_eq_true rfl) ?_
  intro X hl hR hN ok hI hnm fin
  subst hl
  have hcc : (C0.bc ≤ C0.bc ∧ C0.bs ≤ C0.bs) ∧ aS A0 A0 := ⟨⟨Nat.le_refl _, Nat.le_refl _⟩, fun _ _ _ => rfl⟩
  refine jr_widen (cs' := C0.bc - C0.bc) (sl' := C0.bs - C0.bs) (Nat.zero_le _) (Nat.zero_le _) ?_
  show jw X (C0.bc - C0.bc) (C0.bs - C0.bs) (wtL D g A0 C0 S) [(0, .ref (g 9)), (1, .long v1)] 0 []
  rw [s_Pg_addNumber] at hs
  refine jr_aload_n ok 0 d_Pg_addNumber_0 rfl rfl ?_
  refine jr_sipush ok d_Pg_addNumber_1 (by decide +kernel) ?_
  obtain ⟨r4, e4, S4, hc4, hs⟩ := mb3_some hs
  refine jh_gV0 (Lo := fun A => wtL D g A e4 S4) ok hI hR hcc.1 m_Pg_25 (r_Pg_add (jx_l X) D g A0 C0 S 302 r4 e4 S4  hc4) (sg_atk 11 rfl) rfl rfl rfl (Nat.le_of_ble_eq_true rfl) ⟨Nat.le_of_ble_eq_true rfl, Nat.le_of_ble_eq_true rfl⟩ d_Pg_addNumber_4 (fun A4 hcb4 hst4 => ?_)
  have hcc4 : (e4.bc ≤ C0.bc ∧ e4.bs ≤ C0.bs) ∧ aS A0 A4 := ⟨hcb4, aS_tr hcc.2 hst4⟩
  show jw X (C0.bc - e4.bc) (C0.bs - e4.bs) (wtL D g A4 e4 S4) [(0, .ref (g 9)), (1, .long v1)] 7 []
  refine jr_aload_n ok 0 d_Pg_addNumber_7 rfl rfl ?_
  refine jr_lload_n ok 1 d_Pg_addNumber_8 rfl rfl ?_
  refine jr_bipush ok d_Pg_addNumber_9 (by decide +kernel) ?_
  refine jr_lshrx ok d_Pg_addNumber_11 ?_
  refine jr_l2ix ok d_Pg_addNumber_12 ?_
  obtain ⟨r5, e5, S5, hc5, hs⟩ := mb3_some hs
  refine jh_gV0 (Lo := fun A => wtL D g A e5 S5) ok hI hR hcc4.1 m_Pg_25 (r_Pg_add (jx_l X) D g A4 e4 S4 ((v1 >>> ((ii 32).toInt64 &&& 63)).toInt) r5 e5 S5  hc5) (sg_atk 11 rfl) rfl rfl rfl (Nat.le_of_ble_eq_true rfl) ⟨Nat.le_of_ble_eq_true rfl, Nat.le_of_ble_eq_true rfl⟩ d_Pg_addNumber_13 (fun A5 hcb5 hst5 => ?_)
  have hcc5 : (e5.bc ≤ C0.bc ∧ e5.bs ≤ C0.bs) ∧ aS A0 A5 := ⟨hcb5, aS_tr hcc4.2 hst5⟩
  show jw X (C0.bc - e5.bc) (C0.bs - e5.bs) (wtL D g A5 e5 S5) [(0, .ref (g 9)), (1, .long v1)] 16 []
  refine jr_aload_n ok 0 d_Pg_addNumber_16 rfl rfl ?_
  refine jr_lload_n ok 1 d_Pg_addNumber_17 rfl rfl ?_
  refine jr_l2ix ok d_Pg_addNumber_18 ?_
  obtain ⟨r6, e6, S6, hc6, hs⟩ := mb3_some hs
  refine jh_gV0 (Lo := fun A => wtL D g A e6 S6) ok hI hR hcc5.1 m_Pg_25 (r_Pg_add (jx_l X) D g A5 e5 S5 v1.toInt r6 e6 S6  hc6) (sg_atk 11 rfl) rfl rfl rfl (Nat.le_of_ble_eq_true rfl) ⟨Nat.le_of_ble_eq_true rfl, Nat.le_of_ble_eq_true rfl⟩ d_Pg_addNumber_19 (fun A6 hcb6 hst6 => ?_)
  have hcc6 : (e6.bc ≤ C0.bc ∧ e6.bs ≤ C0.bs) ∧ aS A0 A6 := ⟨hcb6, aS_tr hcc5.2 hst6⟩
  show jw X (C0.bc - e6.bc) (C0.bs - e6.bs) (wtL D g A6 e6 S6) [(0, .ref (g 9)), (1, .long v1)] 22 []
  exact jh_vret (ψ := aS A0) (Lf := wtL D g) (bc := CW.bc) (bs := CW.bs) A6 ok fin hcc6 hs d_Pg_addNumber_22

def s_Pg_addFunc (C0 : CW) (S : WS) (v1 : Int) : Option (Int × CW × WS) := mb3 (s_Pg_add C0 S 310) (fun r5 e5 S5 => mb3 (s_Pg_add e5 S5 v1) (fun r6 e6 S6 => mb3 (s_Pg_add e6 S6 0) (fun r7 e7 S7 => mb3 (s_Pg_add e7 S7 0) (fun r8 e8 S8 => some (S.pg_size, e8, S8)))))
set_option maxHeartbeats 4000000 in
set_option maxRecDepth 100000 in
theorem r_Pg_addFunc (l : Launch) (D : jd_T) (g : Nat → Nat) (A0 : AW) (C0 : CW) (S : WS) (v1 : Int) (r : Int) (c9 : CW) (S9 : WS)  (hs : s_Pg_addFunc C0 S v1 = some (r, c9, S9)) : jgI_C l D y_Pg_addFunc b_Pg_addFunc 3 (some .int) { frames := 3, cells := C0.bc, slots := C0.bs, locals := 83 } [.ref (g 9), .int (ii v1)] (wtL D g A0 C0 S) (fun A : AW => (.returned (some (.int (ii r))), (c9.bc ≤ C0.bc ∧ c9.bs ≤ C0.bs) ∧ aS A0 A, wtL D g A c9 S9, C0.bc - c9.bc, C0.bs - c9.bs)) := by
  refine jgI_of rfl (Nat.le_of_ble_eq_true rfl) ?_
  intro X hl hR hN ok hI hnm fin
  subst hl
  have hcc : (C0.bc ≤ C0.bc ∧ C0.bs ≤ C0.bs) ∧ aS A0 A0 := ⟨⟨Nat.le_refl _, Nat.le_refl _⟩, fun _ _ _ => rfl⟩
  refine jr_widen (cs' := C0.bc - C0.bc) (sl' := C0.bs - C0.bs) (Nat.zero_le _) (Nat.zero_le _) ?_
  show jw X (C0.bc - C0.bc) (C0.bs - C0.bs) (wtL D g A0 C0 S) [(0, .ref (g 9)), (1, .int (ii v1))] 0 []
  rw [s_Pg_addFunc] at hs
  refine jr_aload_n ok 0 d_Pg_addFunc_0 rfl rfl ?_
  refine jr_get (v := .int (ii S.pg_size)) ok 11 f_Pg_15 rfl rfl d_Pg_addFunc_1 ?_
  refine jr_istore_n [(2, .int (ii S.pg_size)), (0, .ref (g 9)), (1, .int (ii v1))] ok d_Pg_addFunc_4 rfl (by rw [hN]; decide) rfl ?_
  refine jr_aload_n ok 1 d_Pg_addFunc_5 rfl rfl ?_
  refine jr_sipush ok d_Pg_addFunc_6 (by decide +kernel) ?_
  obtain ⟨r5, e5, S5, hc5, hs⟩ := mb3_some hs
  refine jh_gV0 (Lo := fun A => wtL D g A e5 S5) ok hI hR hcc.1 m_Pg_25 (r_Pg_add (jx_l X) D g A0 C0 S 310 r5 e5 S5  hc5) (sg_atk 11 rfl) rfl rfl rfl (Nat.le_of_ble_eq_true rfl) ⟨Nat.le_of_ble_eq_true rfl, Nat.le_of_ble_eq_true rfl⟩ d_Pg_addFunc_9 (fun A5 hcb5 hst5 => ?_)
  have hcc5 : (e5.bc ≤ C0.bc ∧ e5.bs ≤ C0.bs) ∧ aS A0 A5 := ⟨hcb5, aS_tr hcc.2 hst5⟩
  show jw X (C0.bc - e5.bc) (C0.bs - e5.bs) (wtL D g A5 e5 S5) [(2, .int (ii S.pg_size)), (0, .ref (g 9)), (1, .int (ii v1))] 12 []
  refine jr_aload_n ok 1 d_Pg_addFunc_12 rfl rfl ?_
  refine jr_iload_n ok 2 d_Pg_addFunc_13 rfl rfl ?_
  obtain ⟨r6, e6, S6, hc6, hs⟩ := mb3_some hs
  refine jh_gV0 (Lo := fun A => wtL D g A e6 S6) ok hI hR hcc5.1 m_Pg_25 (r_Pg_add (jx_l X) D g A5 e5 S5 v1 r6 e6 S6  hc6) (sg_atk 11 rfl) rfl rfl rfl (Nat.le_of_ble_eq_true rfl) ⟨Nat.le_of_ble_eq_true rfl, Nat.le_of_ble_eq_true rfl⟩ d_Pg_addFunc_14 (fun A6 hcb6 hst6 => ?_)
  have hcc6 : (e6.bc ≤ C0.bc ∧ e6.bs ≤ C0.bs) ∧ aS A0 A6 := ⟨hcb6, aS_tr hcc5.2 hst6⟩
  show jw X (C0.bc - e6.bc) (C0.bs - e6.bs) (wtL D g A6 e6 S6) [(2, .int (ii S.pg_size)), (0, .ref (g 9)), (1, .int (ii v1))] 17 []
  refine jr_aload_n ok 1 d_Pg_addFunc_17 rfl rfl ?_
  refine jr_iconst ok d_Pg_addFunc_18 ?_
  obtain ⟨r7, e7, S7, hc7, hs⟩ := mb3_some hs
  refine jh_gV0 (Lo := fun A => wtL D g A e7 S7) ok hI hR hcc6.1 m_Pg_25 (r_Pg_add (jx_l X) D g A6 e6 S6 0 r7 e7 S7  hc7) (sg_atk 11 rfl) rfl rfl rfl (Nat.le_of_ble_eq_true rfl) ⟨Nat.le_of_ble_eq_true rfl, Nat.le_of_ble_eq_true rfl⟩ d_Pg_addFunc_19 (fun A7 hcb7 hst7 => ?_)
  have hcc7 : (e7.bc ≤ C0.bc ∧ e7.bs ≤ C0.bs) ∧ aS A0 A7 := ⟨hcb7, aS_tr hcc6.2 hst7⟩
  show jw X (C0.bc - e7.bc) (C0.bs - e7.bs) (wtL D g A7 e7 S7) [(2, .int (ii S.pg_size)), (0, .ref (g 9)), (1, .int (ii v1))] 22 []
  refine jr_aload_n ok 1 d_Pg_addFunc_22 rfl rfl ?_
  refine jr_iconst ok d_Pg_addFunc_23 ?_
  obtain ⟨r8, e8, S8, hc8, hs⟩ := mb3_some hs
  refine jh_gV0 (Lo := fun A => wtL D g A e8 S8) ok hI hR hcc7.1 m_Pg_25 (r_Pg_add (jx_l X) D g A7 e7 S7 0 r8 e8 S8  hc8) (sg_atk 11 rfl) rfl rfl rfl (Nat.le_of_ble_eq_true rfl) ⟨Nat.le_of_ble_eq_true rfl, Nat.le_of_ble_eq_true rfl⟩ d_Pg_addFunc_24 (fun A8 hcb8 hst8 => ?_)
  have hcc8 : (e8.bc ≤ C0.bc ∧ e8.bs ≤ C0.bs) ∧ aS A0 A8 := ⟨hcb8, aS_tr hcc7.2 hst8⟩
  show jw X (C0.bc - e8.bc) (C0.bs - e8.bs) (wtL D g A8 e8 S8) [(2, .int (ii S.pg_size)), (0, .ref (g 9)), (1, .int (ii v1))] 27 []
  refine jr_iload_n ok 0 d_Pg_addFunc_27 rfl rfl ?_
  exact jh_iret (ψ := aS A0) (Lf := wtL D g) (bc := CW.bc) (bs := CW.bs) A8 ok fin hcc8 hs d_Pg_addFunc_28

def s_Pg_addSlice (C0 : CW) (S : WS) (v1 : Int) (v2 : Int) : Option (Unit × CW × WS) := mb3 (s_Pg_add C0 S v1) (fun r3 e3 S3 => mb3 (s_Pg_add e3 S3 (v2 - v1)) (fun r4 e4 S4 => some ((), e4, S4)))
set_option maxHeartbeats 4000000 in
set_option maxRecDepth 100000 in
theorem r_Pg_addSlice (l : Launch) (D : jd_T) (g : Nat → Nat) (A0 : AW) (C0 : CW) (S : WS) (v1 : Int) (v2 : Int) (r : Unit) (c9 : CW) (S9 : WS)  (hs : s_Pg_addSlice C0 S v1 v2 = some (r, c9, S9)) : jgI_C l D y_Pg_addSlice b_Pg_addSlice 3 none { frames := 3, cells := C0.bc, slots := C0.bs, locals := 83 } [.ref (g 9), .int (ii v1), .int (ii v2)] (wtL D g A0 C0 S) (fun A : AW => (.returned (none), (c9.bc ≤ C0.bc ∧ c9.bs ≤ C0.bs) ∧ aS A0 A, wtL D g A c9 S9, C0.bc - c9.bc, C0.bs - c9.bs)) := by
  refine jgI_of rfl (Nat.le_of_ble_eq_true rfl) ?_
  intro X hl hR hN ok hI hnm fin
  subst hl
  have hcc : (C0.bc ≤ C0.bc ∧ C0.bs ≤ C0.bs) ∧ aS A0 A0 := ⟨⟨Nat.le_refl _, Nat.le_refl _⟩, fun _ _ _ => rfl⟩
  refine jr_widen (cs' := C0.bc - C0.bc) (sl' := C0.bs - C0.bs) (Nat.zero_le _) (Nat.zero_le _) ?_
  show jw X (C0.bc - C0.bc) (C0.bs - C0.bs) (wtL D g A0 C0 S) [(0, .ref (g 9)), (1, .int (ii v1)), (2, .int (ii v2))] 0 []
  rw [s_Pg_addSlice] at hs
  refine jr_aload_n ok 0 d_Pg_addSlice_0 rfl rfl ?_
  refine jr_iload_n ok 1 d_Pg_addSlice_1 rfl rfl ?_
  obtain ⟨r3, e3, S3, hc3, hs⟩ := mb3_some hs
  refine jh_gV0 (Lo := fun A => wtL D g A e3 S3) ok hI hR hcc.1 m_Pg_25 (r_Pg_add (jx_l X) D g A0 C0 S v1 r3 e3 S3  hc3) (sg_atk 11 rfl) rfl rfl rfl (Nat.le_of_ble_eq_true rfl) ⟨Nat.le_of_ble_eq_true rfl, Nat.le_of_ble_eq_true rfl⟩ d_Pg_addSlice_2 (fun A3 hcb3 hst3 => ?_)
  have hcc3 : (e3.bc ≤ C0.bc ∧ e3.bs ≤ C0.bs) ∧ aS A0 A3 := ⟨hcb3, aS_tr hcc.2 hst3⟩
  show jw X (C0.bc - e3.bc) (C0.bs - e3.bs) (wtL D g A3 e3 S3) [(0, .ref (g 9)), (1, .int (ii v1)), (2, .int (ii v2))] 5 []
  refine jr_aload_n ok 0 d_Pg_addSlice_5 rfl rfl ?_
  refine jr_iload_n ok 2 d_Pg_addSlice_6 rfl rfl ?_
  refine jr_iload_n ok 1 d_Pg_addSlice_7 rfl rfl ?_
  refine jr_isub ok d_Pg_addSlice_8 ?_
  obtain ⟨r4, e4, S4, hc4, hs⟩ := mb3_some hs
  refine jh_gV0 (Lo := fun A => wtL D g A e4 S4) ok hI hR hcc3.1 m_Pg_25 (r_Pg_add (jx_l X) D g A3 e3 S3 (v2 - v1) r4 e4 S4  hc4) (sg_atk 11 rfl) rfl rfl rfl (Nat.le_of_ble_eq_true rfl) ⟨Nat.le_of_ble_eq_true rfl, Nat.le_of_ble_eq_true rfl⟩ d_Pg_addSlice_9 (fun A4 hcb4 hst4 => ?_)
  have hcc4 : (e4.bc ≤ C0.bc ∧ e4.bs ≤ C0.bs) ∧ aS A0 A4 := ⟨hcb4, aS_tr hcc3.2 hst4⟩
  show jw X (C0.bc - e4.bc) (C0.bs - e4.bs) (wtL D g A4 e4 S4) [(0, .ref (g 9)), (1, .int (ii v1)), (2, .int (ii v2))] 12 []
  exact jh_vret (ψ := aS A0) (Lf := wtL D g) (bc := CW.bc) (bs := CW.bs) A4 ok fin hcc4 hs d_Pg_addSlice_12

def q_Ev_push_22 (c : CW) (v1 : Int) (v2 : Int) (S : WS) : Option (Nat × CW × WS) := if (0 : Int) ≤ (S.ev_height - 1) ∧ (S.ev_height - 1) < (19 : Int) then if S.ev_stack (S.ev_height - 1) < 19 then mb3 (s_Gd_shape c S (S.ev_stack (S.ev_height - 1)) v1 S.ev_windows v2) (fun r7 e7 S7 => some (S.ev_stack (S.ev_height - 1), e7, S7)) else none else none

def s_Ev_push (C0 : CW) (S : WS) (v1 : Int) (v2 : Int) : Option (Nat × CW × WS) := if 19 ≤ w32 S.ev_height then q_Ev_push_22 C0 v1 v2 S else q_Ev_push_22 C0 v1 v2 (WS.w_ev_height S (S.ev_height + 1))
set_option maxHeartbeats 4000000 in
set_option maxRecDepth 100000 in
theorem r_Ev_push (l : Launch) (D : jd_T) (g : Nat → Nat) (A0 : AW) (C0 : CW) (S : WS) (v1 : Int) (v2 : Int) (r : Nat) (c9 : CW) (S9 : WS)  (hs : s_Ev_push C0 S v1 v2 = some (r, c9, S9)) : jgI_C l D y_Ev_push b_Ev_push 4 (some (.object "WindowTables$Grid")) { frames := 2, cells := C0.bc, slots := C0.bs, locals := 55 } [.ref (g 17), .int (ii v1), .int (ii v2)] (wtL D g A0 C0 S) (fun A : AW => (.returned (some (.ref (g (19 + r)))), (c9.bc ≤ C0.bc ∧ c9.bs ≤ C0.bs) ∧ aS A0 A, wtL D g A c9 S9, C0.bc - c9.bc, C0.bs - c9.bs)) := by
  refine jgI_of rfl (Nat.le_of_ble_eq_true rfl) ?_
  intro X hl hR hN ok hI hnm fin
  subst hl
  have hcc : (C0.bc ≤ C0.bc ∧ C0.bs ≤ C0.bs) ∧ aS A0 A0 := ⟨⟨Nat.le_refl _, Nat.le_refl _⟩, fun _ _ _ => rfl⟩
  have B_22 : ∀ (A : AW) (c : CW) (v1 : Int) (v2 : Int) (S : WS), (c.bc ≤ C0.bc ∧ c.bs ≤ C0.bs) ∧ aS A0 A → q_Ev_push_22 c v1 v2 S = some (r, c9, S9) → jw X (C0.bc - c.bc) (C0.bs - c.bs) (wtL D g A c S) [(0, .ref (g 17)), (1, .int (ii v1)), (2, .int (ii v2))] 22 [] := by
    intro A c v1 v2 S hcc hs
    rw [q_Ev_push_22] at hs
    refine jr_aload_n ok 0 d_Ev_push_22 rfl rfl ?_
    refine jr_get (v := .ref (g 18)) ok 20 f_Ev_11 rfl rfl d_Ev_push_23 ?_
    refine jr_aload_n ok 0 d_Ev_push_26 rfl rfl ?_
    refine jr_get (v := .int (ii S.ev_height)) ok 20 f_Ev_49 rfl rfl d_Ev_push_27 ?_
    refine jr_iconst ok d_Ev_push_30 ?_
    refine jr_isub ok d_Ev_push_31 ?_
    obtain ⟨hb5, hs⟩ := oq_if hs
    obtain ⟨hb6, hs⟩ := oq_if hs
    refine jr_aald ok 21 rfl rfl rfl hb5.1 hb5.2 d_Ev_push_32 ?_
    show jw X (C0.bc - c.bc) (C0.bs - c.bs) (wtL D g A c S) [(0, .ref (g 17)), (1, .int (ii v1)), (2, .int (ii v2))] 33 [.ref (g (19 + (S.ev_stack (S.ev_height - 1))))]
    refine jr_astore_n [(3, .ref (g (19 + (S.ev_stack (S.ev_height - 1))))), (0, .ref (g 17)), (1, .int (ii v1)), (2, .int (ii v2))] ok d_Ev_push_33 rfl (by rw [hN]; decide) rfl ?_
    refine jr_aload_n ok 0 d_Ev_push_34 rfl rfl ?_
    refine jr_iload_n ok 2 d_Ev_push_35 rfl rfl ?_
    refine jr_aload_n ok 1 d_Ev_push_36 rfl rfl ?_
    refine jr_get (v := .int (ii S.ev_windows)) ok 20 f_Ev_45 rfl rfl d_Ev_push_37 ?_
    refine jr_iload_n ok 3 d_Ev_push_40 rfl rfl ?_
    obtain ⟨r7, e7, S7, hc7, hs⟩ := mb3_some hs
    refine jh_gV0 (Lo := fun A => wtL D g A e7 S7) ok hI hR hcc.1 m_Ev_99 (r_Gd_shape (jx_l X) D g A c S (S.ev_stack (S.ev_height - 1)) v1 S.ev_windows v2 r7 e7 S7 hb6 hc7) (sg_atp (F := grdW D g A c S) 23 rfl hb6 0 rfl) rfl rfl rfl (Nat.le_of_ble_eq_true rfl) ⟨Nat.le_of_ble_eq_true rfl, Nat.le_of_ble_eq_true rfl⟩ d_Ev_push_41 (fun A7 hcb7 hst7 => ?_)
    have hcc7 : (e7.bc ≤ C0.bc ∧ e7.bs ≤ C0.bs) ∧ aS A0 A7 := ⟨hcb7, aS_tr hcc.2 hst7⟩
    show jw X (C0.bc - e7.bc) (C0.bs - e7.bs) (wtL D g A7 e7 S7) [(3, .ref (g (19 + (S.ev_stack (S.ev_height - 1))))), (0, .ref (g 17)), (1, .int (ii v1)), (2, .int (ii v2))] 44 []
    refine jr_aload_n ok 0 d_Ev_push_44 rfl rfl ?_
    exact jh_aret (f := fun z => (g (19 + z))) (ψ := aS A0) (Lf := wtL D g) (bc := CW.bc) (bs := CW.bs) A7 ok fin hcc7 hs d_Ev_push_45
  refine jr_widen (cs' := C0.bc - C0.bc) (sl' := C0.bs - C0.bs) (Nat.zero_le _) (Nat.zero_le _) ?_
  show jw X (C0.bc - C0.bc) (C0.bs - C0.bs) (wtL D g A0 C0 S) [(0, .ref (g 17)), (1, .int (ii v1)), (2, .int (ii v2))] 0 []
  rw [s_Ev_push] at hs
  refine jr_aload_n ok 0 d_Ev_push_0 rfl rfl ?_
  refine jr_get (v := .int (ii S.ev_height)) ok 20 f_Ev_49 rfl rfl d_Ev_push_1 ?_
  refine jr_aload_n ok 0 d_Ev_push_4 rfl rfl ?_
  refine jr_get (v := .ref (g 18)) ok 20 f_Ev_11 rfl rfl d_Ev_push_5 ?_
  refine jr_alen_q ok 21 rfl rfl d_Ev_push_8 ?_
  refine jr_wicmp_ge 22 ok rfl (show w32 19 = 19 by decide) d_Ev_push_9 (by decide) (fun c8 => ?_) (fun c8 => ?_)
  · replace hs := oq_pos c8 hs
    exact jr_lv [0, 1, 2] rfl (B_22 A0 C0 v1 v2 S hcc hs)
  · replace hs := oq_neg c8 hs
    refine jr_aload_n ok 0 d_Ev_push_12 rfl rfl ?_
    refine jr_dup rfl ok d_Ev_push_13 ?_
    refine jr_get (v := .int (ii S.ev_height)) ok 20 f_Ev_49 rfl rfl d_Ev_push_14 ?_
    refine jr_iconst ok d_Ev_push_17 ?_
    refine jr_iadd ok d_Ev_push_18 ?_
    refine jr_put (wtL D g A0 C0 (WS.w_ev_height S (S.ev_height + 1))) ok 20 f_Ev_49 rfl rfl rfl (Nat.le_of_ble_eq_true rfl) rfl d_Ev_push_19 ?_
    exact jr_lv [0, 1, 2] rfl (B_22 A0 C0 v1 v2 (WS.w_ev_height S (S.ev_height + 1)) hcc hs)

def q_Ev_pushNumber_10 : Nat → CW → Int64 → Nat → Int → WS → Option (Unit × CW × WS)
  | 0, _, _, _, _, _ => none
  | n + 1, c, v1, v3, v4, S => if w32 S.ev_windows ≤ w32 v4 then some ((), c, S) else mb2 (s_Gd_put c S v3 v4 v1) (fun r6 S6 => (q_Ev_pushNumber_10 n) c v1 v3 (v4 + 1) S6)

def s_Ev_pushNumber (C0 : CW) (S : WS) (v1 : Int64) : Option (Unit × CW × WS) := mb3 (s_Ev_push C0 S 1 0) (fun r7 e7 S7 => if r7 < 19 then q_Ev_pushNumber_10 fU e7 v1 r7 0 S7 else none)
set_option maxHeartbeats 4000000 in
set_option maxRecDepth 100000 in
theorem r_Ev_pushNumber (l : Launch) (D : jd_T) (g : Nat → Nat) (A0 : AW) (C0 : CW) (S : WS) (v1 : Int64) (r : Unit) (c9 : CW) (S9 : WS)  (hs : s_Ev_pushNumber C0 S v1 = some (r, c9, S9)) : jgI_C l D y_Ev_pushNumber b_Ev_pushNumber 5 none { frames := 3, cells := C0.bc, slots := C0.bs, locals := 78 } [.ref (g 17), .long v1] (wtL D g A0 C0 S) (fun A : AW => (.returned (none), (c9.bc ≤ C0.bc ∧ c9.bs ≤ C0.bs) ∧ aS A0 A, wtL D g A c9 S9, C0.bc - c9.bc, C0.bs - c9.bs)) := by
  refine jgI_of rfl (Nat.le_of_ble_eq_true rfl) ?_
  intro X hl hR hN ok hI hnm fin
  subst hl
  have hcc : (C0.bc ≤ C0.bc ∧ C0.bs ≤ C0.bs) ∧ aS A0 A0 := ⟨⟨Nat.le_refl _, Nat.le_refl _⟩, fun _ _ _ => rfl⟩
  have B_10 : ∀ (n10 : Nat), ∀ (A : AW) (c : CW) (v1 : Int64) (v3 : Nat) (v4 : Int) (S : WS), (c.bc ≤ C0.bc ∧ c.bs ≤ C0.bs) ∧ aS A0 A → v3 < 19 → q_Ev_pushNumber_10 n10 c v1 v3 v4 S = some (r, c9, S9) → jw X (C0.bc - c.bc) (C0.bs - c.bs) (wtL D g A c S) [(0, .ref (g 17)), (1, .long v1), (3, .ref (g (19 + v3))), (4, .int (ii v4))] 10 [] := by
    intro n10
    induction n10 with
    | zero =>
      intro A c v1 v3 v4 S hcc hv3 hs
      rw [q_Ev_pushNumber_10] at hs; cases hs
    | succ n10 ih10 =>
      intro A c v1 v3 v4 S hcc hv3 hs
      rw [q_Ev_pushNumber_10] at hs
      refine jr_iload ok 3 d_Ev_pushNumber_10 rfl ?_
      refine jr_aload_n ok 0 d_Ev_pushNumber_12 rfl rfl ?_
      refine jr_get (v := .int (ii S.ev_windows)) ok 20 f_Ev_45 rfl rfl d_Ev_pushNumber_13 ?_
      refine jr_wicmp_ge 32 ok rfl rfl d_Ev_pushNumber_16 (by decide) (fun c5 => ?_) (fun c5 => ?_)
      · replace hs := oq_pos c5 hs
        exact jh_vret (ψ := aS A0) (Lf := wtL D g) (bc := CW.bc) (bs := CW.bs) A ok fin hcc hs d_Ev_pushNumber_32
      · replace hs := oq_neg c5 hs
        refine jr_aload_n ok 2 d_Ev_pushNumber_19 rfl rfl ?_
        refine jr_iload ok 3 d_Ev_pushNumber_20 rfl ?_
        refine jr_lload_n ok 1 d_Ev_pushNumber_22 rfl rfl ?_
        obtain ⟨r6, S6, hc6, hs⟩ := mb2_some hs
        refine jq_cV0 ok hR m_Ev_107 (r_Gd_put (jx_l X) D g A c S v3 v4 v1 r6 S6 hv3 hc6) (sg_atp (F := grdW D g A c S) 23 rfl hv3 0 rfl) rfl rfl rfl (Nat.le_of_ble_eq_true rfl) ⟨Nat.le_of_ble_eq_true rfl, Nat.le_of_ble_eq_true rfl⟩ ⟨Nat.sub_le _ _, Nat.sub_le _ _⟩ d_Ev_pushNumber_23 ?_
        show jw X (C0.bc - c.bc) (C0.bs - c.bs) (wtL D g A c S6) [(0, .ref (g 17)), (1, .long v1), (3, .ref (g (19 + v3))), (4, .int (ii v4))] 26 []
        refine jr_iinc [(4, .int (ii (v4 + 1))), (0, .ref (g 17)), (1, .long v1), (3, .ref (g (19 + v3)))] 3 ok d_Ev_pushNumber_26 rfl (by rw [hN]; decide) rfl ?_
        refine jr_goto 10 ok d_Ev_pushNumber_29 (by decide) ?_
        exact jr_lv [1, 2, 3, 0] rfl (ih10 A c v1 v3 (v4 + 1) S6 hcc hv3 hs)
  refine jr_widen (cs' := C0.bc - C0.bc) (sl' := C0.bs - C0.bs) (Nat.zero_le _) (Nat.zero_le _) ?_
  show jw X (C0.bc - C0.bc) (C0.bs - C0.bs) (wtL D g A0 C0 S) [(0, .ref (g 17)), (1, .long v1)] 0 []
  rw [s_Ev_pushNumber] at hs
  refine jr_aload_n ok 0 d_Ev_pushNumber_0 rfl rfl ?_
  refine jr_iconst ok d_Ev_pushNumber_1 ?_
  refine jr_iconst ok d_Ev_pushNumber_2 ?_
  obtain ⟨r7, e7, S7, hc7, hs⟩ := mb3_some hs
  refine jh_gV1 (Lo := fun A => wtL D g A e7 S7) ok hI hR hcc.1 m_Ev_103 (r_Ev_push (jx_l X) D g A0 C0 S 1 0 r7 e7 S7  hc7) (sg_atk 20 rfl) rfl rfl rfl (Nat.le_of_ble_eq_true rfl) ⟨Nat.le_of_ble_eq_true rfl, Nat.le_of_ble_eq_true rfl⟩ d_Ev_pushNumber_3 (fun A7 hcb7 hst7 => ?_)
  have hcc7 : (e7.bc ≤ C0.bc ∧ e7.bs ≤ C0.bs) ∧ aS A0 A7 := ⟨hcb7, aS_tr hcc.2 hst7⟩
  obtain ⟨hb8, hs⟩ := oq_if hs
  show jw X (C0.bc - e7.bc) (C0.bs - e7.bs) (wtL D g A7 e7 S7) [(0, .ref (g 17)), (1, .long v1)] 6 [.ref (g (19 + r7))]
  refine jr_astore_n [(3, .ref (g (19 + r7))), (0, .ref (g 17)), (1, .long v1)] ok d_Ev_pushNumber_6 rfl (by rw [hN]; decide) rfl ?_
  refine jr_iconst ok d_Ev_pushNumber_7 ?_
  refine jr_istore [(4, .int (ii 0)), (3, .ref (g (19 + r7))), (0, .ref (g 17)), (1, .long v1)] ok d_Ev_pushNumber_8 (by rw [hN]; decide) rfl ?_
  exact jr_lv [2, 3, 1, 0] rfl (B_10 fU A7 e7 v1 r7 0 S7 hcc7 hb8 hs)

def q_Ev_pushFunc_144 (k77 : CW → Int → Int → Nat → Int → Int → WS → Option (Unit × CW × WS)) (c : CW) (v1 : Int) (v2 : Int) (v3 : Nat) (v4 : Int) (v5 : Int) (S : WS) : Option (Unit × CW × WS) := k77 c v1 v2 v3 v4 (v5 + 1) S

def q_Ev_pushFunc_136 (k77 : CW → Int → Int → Nat → Int → Int → WS → Option (Unit × CW × WS)) (c : CW) (v1 : Int) (v2 : Int) (v3 : Nat) (v4 : Int) (v5 : Int) (v6 : Nat) (t0 : Int) (t1 : Nat) (t2 : Int) (S : WS) : Option (Unit × CW × WS) := mb2 (s_Se_points c S v6) (fun r40 S40 => if r40 < c.N then mb2 (s_Ev_addPoints c S40 t2 t1 t0 r40) (fun r42 S42 => q_Ev_pushFunc_144 k77 c v1 v2 v3 v4 v5 S42) else none)

def q_Ev_pushFunc_77 : Nat → CW → Int → Int → Nat → Int → Int → WS → Option (Unit × CW × WS)
  | 0, _, _, _, _, _, _, _ => none
  | n + 1, c, v1, v2, v3, v4, v5, S => mb2 (s_St_size c S ) (fun r32 S32 => if w32 r32 ≤ w32 v5 then some ((), c, S32) else if ((0 : Int) ≤ v5 ∧ v5 < (c.N : Int)) ∧ c.N ≤ 256 then mb2 (s_Ev_matchesAll c S32 v5.toNat v1) (fun r36 S36 => if w32 r36 = 0 then q_Ev_pushFunc_144 (q_Ev_pushFunc_77 n) c v1 v2 v3 v4 v5 S36 else if w32 v2 = 0 then q_Ev_pushFunc_136 (q_Ev_pushFunc_77 n) c v1 v2 v3 v4 v5 v5.toNat 0 v3 v4 S36 else mb2 (s_Gr_groupOf c S36 v5) (fun r39 S39 => q_Ev_pushFunc_136 (q_Ev_pushFunc_77 n) c v1 v2 v3 v4 v5 v5.toNat r39 v3 v4 S39)) else none)

def q_Ev_pushFunc_74 (c : CW) (v1 : Int) (v2 : Int) (v3 : Nat) (v4 : Int) (S : WS) : Option (Unit × CW × WS) := q_Ev_pushFunc_77 fU c v1 v2 v3 v4 0 S

def q_Ev_pushFunc_61 (c : CW) (v1 : Int) (v2 : Int) (v3 : Nat) (v4 : Int) (S : WS) : Option (Unit × CW × WS) := mb2 (s_Gd_lines c S v3) (fun r30 S30 => mb3 (s_Ev_makeMoments c S30 (r30 * S30.ev_windows)) (fun r31 e31 S31 => q_Ev_pushFunc_74 e31 v1 v2 v3 v4 S31))

def q_Ev_pushFunc_33 (c : CW) (v1 : Int) (v2 : Int) (t0 : Int) (S : WS) : Option (Unit × CW × WS) := mb3 (s_Ev_push c S t0 v2) (fun r25 e25 S25 => if r25 < 19 then mb2 (s_Pg_kindOf e25 S25 v1) (fun r27 S27 => if w32 r27 = 5 then q_Ev_pushFunc_61 e25 v1 v2 r25 r27 S27 else if w32 r27 = 6 then q_Ev_pushFunc_61 e25 v1 v2 r25 r27 S27 else q_Ev_pushFunc_74 e25 v1 v2 r25 r27 S27) else none)

def q_Ev_pushFunc_16 (c : CW) (v1 : Int) (t0 : Int) (S : WS) : Option (Unit × CW × WS) := if w32 t0 = 0 then q_Ev_pushFunc_33 c v1 t0 1 S else mb2 (s_Gr_size c S ) (fun r24 S24 => q_Ev_pushFunc_33 c v1 t0 r24 S24)

def s_Ev_pushFunc (C0 : CW) (S : WS) (v1 : Int) : Option (Unit × CW × WS) := mb2 (s_Pg_namesOf C0 S v1) (fun r43 S43 => if w32 r43 ≤ 0 then q_Ev_pushFunc_16 C0 v1 0 S43 else q_Ev_pushFunc_16 C0 v1 1 S43)
set_option maxHeartbeats 4000000 in
set_option maxRecDepth 100000 in
theorem r_Ev_pushFunc (l : Launch) (D : jd_T) (g : Nat → Nat) (A0 : AW) (C0 : CW) (S : WS) (v1 : Int) (r : Unit) (c9 : CW) (S9 : WS)  (hs : s_Ev_pushFunc C0 S v1 = some (r, c9, S9)) : jgI_C l D y_Ev_pushFunc b_Ev_pushFunc 7 none { frames := 5, cells := C0.bc, slots := C0.bs, locals := 119 } [.ref (g 17), .int (ii v1)] (wtL D g A0 C0 S) (fun A : AW => (.returned (none), (c9.bc ≤ C0.bc ∧ c9.bs ≤ C0.bs) ∧ aS A0 A, wtL D g A c9 S9, C0.bc - c9.bc, C0.bs - c9.bs)) := by
  refine jgI_of rfl (Nat.le_of_ble_eq_true rfl) ?_
  intro X hl hR hN ok hI hnm fin
  subst hl
  have hcc : (C0.bc ≤ C0.bc ∧ C0.bs ≤ C0.bs) ∧ aS A0 A0 := ⟨⟨Nat.le_refl _, Nat.le_refl _⟩, fun _ _ _ => rfl⟩
  have B_77 : ∀ (n77 : Nat), ∀ (A : AW) (c : CW) (v1 : Int) (v2 : Int) (v3 : Nat) (v4 : Int) (v5 : Int) (S : WS), (c.bc ≤ C0.bc ∧ c.bs ≤ C0.bs) ∧ aS A0 A → v3 < 19 → q_Ev_pushFunc_77 n77 c v1 v2 v3 v4 v5 S = some (r, c9, S9) → jw X (C0.bc - c.bc) (C0.bs - c.bs) (wtL D g A c S) [(0, .ref (g 17)), (1, .int (ii v1)), (2, .int (ii v2)), (3, .ref (g (19 + v3))), (4, .int (ii v4)), (5, .int (ii v5))] 77 [] := by
    intro n77
    induction n77 with
    | zero =>
      intro A c v1 v2 v3 v4 v5 S hcc hv3 hs
      rw [q_Ev_pushFunc_77] at hs; cases hs
    | succ n77 ih77 =>
      have B_144 : ∀ (A : AW) (c : CW) (v1 : Int) (v2 : Int) (v3 : Nat) (v4 : Int) (v5 : Int) (S : WS), (c.bc ≤ C0.bc ∧ c.bs ≤ C0.bs) ∧ aS A0 A → v3 < 19 → q_Ev_pushFunc_144 (q_Ev_pushFunc_77 n77) c v1 v2 v3 v4 v5 S = some (r, c9, S9) → jw X (C0.bc - c.bc) (C0.bs - c.bs) (wtL D g A c S) [(0, .ref (g 17)), (1, .int (ii v1)), (2, .int (ii v2)), (3, .ref (g (19 + v3))), (4, .int (ii v4)), (5, .int (ii v5))] 144 [] := by
        intro A c v1 v2 v3 v4 v5 S hcc hv3 hs
        rw [q_Ev_pushFunc_144] at hs
        refine jr_iinc [(5, .int (ii (v5 + 1))), (0, .ref (g 17)), (1, .int (ii v1)), (2, .int (ii v2)), (3, .ref (g (19 + v3))), (4, .int (ii v4))] 5 ok d_Ev_pushFunc_144 rfl (by rw [hN]; decide) rfl ?_
        refine jr_goto 77 ok d_Ev_pushFunc_147 (by decide) ?_
        exact jr_lv [1, 2, 3, 4, 5, 0] rfl (ih77 A c v1 v2 v3 v4 (v5 + 1) S hcc hv3 hs)
      have B_136 : ∀ (A : AW) (c : CW) (v1 : Int) (v2 : Int) (v3 : Nat) (v4 : Int) (v5 : Int) (v6 : Nat) (t0 : Int) (t1 : Nat) (t2 : Int) (S : WS), (c.bc ≤ C0.bc ∧ c.bs ≤ C0.bs) ∧ aS A0 A → v3 < 19 → v6 < c.N → t1 < 19 → q_Ev_pushFunc_136 (q_Ev_pushFunc_77 n77) c v1 v2 v3 v4 v5 v6 t0 t1 t2 S = some (r, c9, S9) → jw X (C0.bc - c.bc) (C0.bs - c.bs) (wtL D g A c S) [(0, .ref (g 17)), (1, .int (ii v1)), (2, .int (ii v2)), (3, .ref (g (19 + v3))), (4, .int (ii v4)), (5, .int (ii v5)), (6, .ref (A.us v6 0))] 136 [.int (ii t0), .ref (g (19 + t1)), .int (ii t2), .ref (g 17)] := by
        intro A c v1 v2 v3 v4 v5 v6 t0 t1 t2 S hcc hv3 hv6 ht1 hs
        rw [q_Ev_pushFunc_136] at hs
        refine jr_aload ok 6 d_Ev_pushFunc_136 rfl ?_
        obtain ⟨r40, S40, hc40, hs⟩ := mb2_some hs
        refine jq_cV1 ok hR m_Ev_162 (r_Se_points (jx_l X) D g A c S v6 r40 S40 hv6 hc40) (sg_atp (F := serW D A c S) 5 rfl hv6 0 rfl) rfl rfl rfl (Nat.le_of_ble_eq_true rfl) ⟨Nat.le_of_ble_eq_true rfl, Nat.le_of_ble_eq_true rfl⟩ ⟨Nat.sub_le _ _, Nat.sub_le _ _⟩ d_Ev_pushFunc_138 ?_
        obtain ⟨hb41, hs⟩ := oq_if hs
        show jw X (C0.bc - c.bc) (C0.bs - c.bs) (wtL D g A c S40) [(0, .ref (g 17)), (1, .int (ii v1)), (2, .int (ii v2)), (3, .ref (g (19 + v3))), (4, .int (ii v4)), (5, .int (ii v5)), (6, .ref (A.us v6 0))] 141 [.ref (A.us r40 5), .int (ii t0), .ref (g (19 + t1)), .int (ii t2), .ref (g 17)]
        obtain ⟨r42, S42, hc42, hs⟩ := mb2_some hs
        refine jq_cV0 ok hR m_Ev_168 (r_Ev_addPoints (jx_l X) D g A c S40 t2 t1 t0 r40 r42 S42 ht1 hb41 hc42) (sg_atk 20 rfl) rfl rfl rfl (Nat.le_of_ble_eq_true rfl) ⟨Nat.le_of_ble_eq_true rfl, Nat.le_of_ble_eq_true rfl⟩ ⟨Nat.sub_le _ _, Nat.sub_le _ _⟩ d_Ev_pushFunc_141 ?_
        show jw X (C0.bc - c.bc) (C0.bs - c.bs) (wtL D g A c S42) [(0, .ref (g 17)), (1, .int (ii v1)), (2, .int (ii v2)), (3, .ref (g (19 + v3))), (4, .int (ii v4)), (5, .int (ii v5)), (6, .ref (A.us v6 0))] 144 []
        exact jr_lv [0, 1, 2, 3, 4, 5] rfl (B_144 A c v1 v2 v3 v4 v5 S42 hcc hv3 hs)
      intro A c v1 v2 v3 v4 v5 S hcc hv3 hs
      rw [q_Ev_pushFunc_77] at hs
      refine jr_iload ok 5 d_Ev_pushFunc_77 rfl ?_
      refine jr_aload_n ok 0 d_Ev_pushFunc_79 rfl rfl ?_
      refine jr_get (v := .ref (g 2)) ok 20 f_Ev_25 rfl rfl d_Ev_pushFunc_80 ?_
      obtain ⟨r32, S32, hc32, hs⟩ := mb2_some hs
      refine jq_cV1 ok hR m_Ev_148 (r_St_size (jx_l X) D g A c S  r32 S32  hc32) (sg_atk 3 rfl) rfl rfl rfl (Nat.le_of_ble_eq_true rfl) ⟨Nat.le_of_ble_eq_true rfl, Nat.le_of_ble_eq_true rfl⟩ ⟨Nat.sub_le _ _, Nat.sub_le _ _⟩ d_Ev_pushFunc_83 ?_
      show jw X (C0.bc - c.bc) (C0.bs - c.bs) (wtL D g A c S32) [(0, .ref (g 17)), (1, .int (ii v1)), (2, .int (ii v2)), (3, .ref (g (19 + v3))), (4, .int (ii v4)), (5, .int (ii v5))] 86 [.int (ii r32), .int (ii v5)]
      refine jr_wicmp_ge 150 ok rfl rfl d_Ev_pushFunc_86 (by decide) (fun c33 => ?_) (fun c33 => ?_)
      · replace hs := oq_pos c33 hs
        exact jh_vret (ψ := aS A0) (Lf := wtL D g) (bc := CW.bc) (bs := CW.bs) A ok fin hcc hs d_Ev_pushFunc_150
      · replace hs := oq_neg c33 hs
        refine jr_aload_n ok 0 d_Ev_pushFunc_89 rfl rfl ?_
        refine jr_get (v := .ref (g 2)) ok 20 f_Ev_25 rfl rfl d_Ev_pushFunc_90 ?_
        refine jr_iload ok 5 d_Ev_pushFunc_93 rfl ?_
        obtain ⟨hb35, hs⟩ := oq_if hs
        refine jq_cV1 ok hR m_Ev_151 (r_St_find (jx_l X) D g A c S32 v5 hb35) (sg_atk 3 rfl) rfl rfl rfl (Nat.le_of_ble_eq_true rfl) ⟨Nat.le_of_ble_eq_true rfl, Nat.le_of_ble_eq_true rfl⟩ ⟨Nat.sub_le _ _, Nat.sub_le _ _⟩ d_Ev_pushFunc_95 ?_
        show jw X (C0.bc - c.bc) (C0.bs - c.bs) (wtL D g A c S32) [(0, .ref (g 17)), (1, .int (ii v1)), (2, .int (ii v2)), (3, .ref (g (19 + v3))), (4, .int (ii v4)), (5, .int (ii v5))] 98 [.ref (A.us v5.toNat 0)]
        refine jr_astore [(6, .ref (A.us v5.toNat 0)), (0, .ref (g 17)), (1, .int (ii v1)), (2, .int (ii v2)), (3, .ref (g (19 + v3))), (4, .int (ii v4)), (5, .int (ii v5))] ok d_Ev_pushFunc_98 (by rw [hN]; decide) rfl ?_
        refine jr_aload ok 0 d_Ev_pushFunc_100 rfl ?_
        refine jr_ifnull_r ok d_Ev_pushFunc_102 ?_
        refine jr_aload_n ok 1 d_Ev_pushFunc_105 rfl rfl ?_
        refine jr_aload ok 0 d_Ev_pushFunc_106 rfl ?_
        refine jr_iload_n ok 2 d_Ev_pushFunc_108 rfl rfl ?_
        obtain ⟨r36, S36, hc36, hs⟩ := mb2_some hs
        refine jq_cV1 ok hR m_Ev_155 (r_Ev_matchesAll (jx_l X) D g A c S32 v5.toNat v1 r36 S36 (idx_lt hb35.1.1 hb35.1.2) hc36) (sg_atk 20 rfl) rfl rfl rfl (Nat.le_of_ble_eq_true rfl) ⟨Nat.le_of_ble_eq_true rfl, Nat.le_of_ble_eq_true rfl⟩ ⟨Nat.sub_le _ _, Nat.sub_le _ _⟩ d_Ev_pushFunc_109 ?_
        show jw X (C0.bc - c.bc) (C0.bs - c.bs) (wtL D g A c S36) [(6, .ref (A.us v5.toNat 0)), (0, .ref (g 17)), (1, .int (ii v1)), (2, .int (ii v2)), (3, .ref (g (19 + v3))), (4, .int (ii v4)), (5, .int (ii v5))] 112 [.int (ii r36)]
        refine jr_wif_eq 144 ok rfl d_Ev_pushFunc_112 (by decide) (fun c37 => ?_) (fun c37 => ?_)
        · replace hs := oq_pos c37 hs
          exact jr_lv [1, 2, 3, 4, 5, 6] rfl (B_144 A c v1 v2 v3 v4 v5 S36 hcc hv3 hs)
        · replace hs := oq_neg c37 hs
          refine jr_aload_n ok 1 d_Ev_pushFunc_115 rfl rfl ?_
          refine jr_iload ok 5 d_Ev_pushFunc_116 rfl ?_
          refine jr_aload_n ok 4 d_Ev_pushFunc_118 rfl rfl ?_
          refine jr_iload_n ok 3 d_Ev_pushFunc_119 rfl rfl ?_
          refine jr_wif_eq 135 ok rfl d_Ev_pushFunc_120 (by decide) (fun c38 => ?_) (fun c38 => ?_)
          · replace hs := oq_pos c38 hs
            refine jr_iconst ok d_Ev_pushFunc_135 ?_
            exact jr_lv [1, 2, 3, 4, 5, 6, 0] rfl (B_136 A c v1 v2 v3 v4 v5 v5.toNat 0 v3 v4 S36 hcc hv3 (idx_lt hb35.1.1 hb35.1.2) hv3 hs)
          · replace hs := oq_neg c38 hs
            refine jr_aload_n ok 1 d_Ev_pushFunc_123 rfl rfl ?_
            refine jr_get (v := .ref (g 12)) ok 20 f_Ev_33 rfl rfl d_Ev_pushFunc_124 ?_
            refine jr_iload ok 6 d_Ev_pushFunc_127 rfl ?_
            obtain ⟨r39, S39, hc39, hs⟩ := mb2_some hs
            refine jq_cV1 ok hR m_Ev_159 (r_Gr_groupOf (jx_l X) D g A c S36 v5 r39 S39  hc39) (sg_atk 15 rfl) rfl rfl rfl (Nat.le_of_ble_eq_true rfl) ⟨Nat.le_of_ble_eq_true rfl, Nat.le_of_ble_eq_true rfl⟩ ⟨Nat.sub_le _ _, Nat.sub_le _ _⟩ d_Ev_pushFunc_129 ?_
            show jw X (C0.bc - c.bc) (C0.bs - c.bs) (wtL D g A c S39) [(6, .ref (A.us v5.toNat 0)), (0, .ref (g 17)), (1, .int (ii v1)), (2, .int (ii v2)), (3, .ref (g (19 + v3))), (4, .int (ii v4)), (5, .int (ii v5))] 132 [.int (ii r39), .ref (g (19 + v3)), .int (ii v4), .ref (g 17)]
            refine jr_goto 136 ok d_Ev_pushFunc_132 (by decide) ?_
            exact jr_lv [1, 2, 3, 4, 5, 6, 0] rfl (B_136 A c v1 v2 v3 v4 v5 v5.toNat r39 v3 v4 S39 hcc hv3 (idx_lt hb35.1.1 hb35.1.2) hv3 hs)
  have B_74 : ∀ (A : AW) (c : CW) (v1 : Int) (v2 : Int) (v3 : Nat) (v4 : Int) (S : WS), (c.bc ≤ C0.bc ∧ c.bs ≤ C0.bs) ∧ aS A0 A → v3 < 19 → q_Ev_pushFunc_74 c v1 v2 v3 v4 S = some (r, c9, S9) → jw X (C0.bc - c.bc) (C0.bs - c.bs) (wtL D g A c S) [(0, .ref (g 17)), (1, .int (ii v1)), (2, .int (ii v2)), (3, .ref (g (19 + v3))), (4, .int (ii v4))] 74 [] := by
    intro A c v1 v2 v3 v4 S hcc hv3 hs
    rw [q_Ev_pushFunc_74] at hs
    refine jr_iconst ok d_Ev_pushFunc_74 ?_
    refine jr_istore [(5, .int (ii 0)), (0, .ref (g 17)), (1, .int (ii v1)), (2, .int (ii v2)), (3, .ref (g (19 + v3))), (4, .int (ii v4))] ok d_Ev_pushFunc_75 (by rw [hN]; decide) rfl ?_
    exact jr_lv [1, 2, 3, 4, 5, 0] rfl (B_77 fU A c v1 v2 v3 v4 0 S hcc hv3 hs)
  have B_61 : ∀ (A : AW) (c : CW) (v1 : Int) (v2 : Int) (v3 : Nat) (v4 : Int) (S : WS), (c.bc ≤ C0.bc ∧ c.bs ≤ C0.bs) ∧ aS A0 A → v3 < 19 → q_Ev_pushFunc_61 c v1 v2 v3 v4 S = some (r, c9, S9) → jw X (C0.bc - c.bc) (C0.bs - c.bs) (wtL D g A c S) [(0, .ref (g 17)), (1, .int (ii v1)), (2, .int (ii v2)), (3, .ref (g (19 + v3))), (4, .int (ii v4))] 61 [] := by
    intro A c v1 v2 v3 v4 S hcc hv3 hs
    rw [q_Ev_pushFunc_61] at hs
    refine jr_aload_n ok 0 d_Ev_pushFunc_61 rfl rfl ?_
    refine jr_aload_n ok 3 d_Ev_pushFunc_62 rfl rfl ?_
    obtain ⟨r30, S30, hc30, hs⟩ := mb2_some hs
    refine jq_cV1 ok hR m_Ev_96 (r_Gd_lines (jx_l X) D g A c S v3 r30 S30 hv3 hc30) (sg_atp (F := grdW D g A c S) 23 rfl hv3 0 rfl) rfl rfl rfl (Nat.le_of_ble_eq_true rfl) ⟨Nat.le_of_ble_eq_true rfl, Nat.le_of_ble_eq_true rfl⟩ ⟨Nat.sub_le _ _, Nat.sub_le _ _⟩ d_Ev_pushFunc_63 ?_
    show jw X (C0.bc - c.bc) (C0.bs - c.bs) (wtL D g A c S30) [(0, .ref (g 17)), (1, .int (ii v1)), (2, .int (ii v2)), (3, .ref (g (19 + v3))), (4, .int (ii v4))] 66 [.int (ii r30), .ref (g 17)]
    refine jr_aload_n ok 0 d_Ev_pushFunc_66 rfl rfl ?_
    refine jr_get (v := .int (ii S30.ev_windows)) ok 20 f_Ev_45 rfl rfl d_Ev_pushFunc_67 ?_
    refine jr_imul ok d_Ev_pushFunc_70 ?_
    obtain ⟨r31, e31, S31, hc31, hs⟩ := mb3_some hs
    refine jh_gV0 (Lo := fun A => wtL D g A e31 S31) ok hI hR hcc.1 m_Ev_145 (r_Ev_makeMoments (jx_l X) D g A c S30 (r30 * S30.ev_windows) r31 e31 S31  hc31) (sg_atk 20 rfl) rfl rfl rfl (Nat.le_of_ble_eq_true rfl) ⟨Nat.le_of_ble_eq_true rfl, Nat.le_of_ble_eq_true rfl⟩ d_Ev_pushFunc_71 (fun A31 hcb31 hst31 => ?_)
    have hcc31 : (e31.bc ≤ C0.bc ∧ e31.bs ≤ C0.bs) ∧ aS A0 A31 := ⟨hcb31, aS_tr hcc.2 hst31⟩
    show jw X (C0.bc - e31.bc) (C0.bs - e31.bs) (wtL D g A31 e31 S31) [(0, .ref (g 17)), (1, .int (ii v1)), (2, .int (ii v2)), (3, .ref (g (19 + v3))), (4, .int (ii v4))] 74 []
    exact jr_lv [0, 1, 2, 3, 4] rfl (B_74 A31 e31 v1 v2 v3 v4 S31 hcc31 hv3 hs)
  have B_33 : ∀ (A : AW) (c : CW) (v1 : Int) (v2 : Int) (t0 : Int) (S : WS), (c.bc ≤ C0.bc ∧ c.bs ≤ C0.bs) ∧ aS A0 A → q_Ev_pushFunc_33 c v1 v2 t0 S = some (r, c9, S9) → jw X (C0.bc - c.bc) (C0.bs - c.bs) (wtL D g A c S) [(0, .ref (g 17)), (1, .int (ii v1)), (2, .int (ii v2))] 33 [.int (ii t0), .ref (g 17)] := by
    intro A c v1 v2 t0 S hcc hs
    rw [q_Ev_pushFunc_33] at hs
    refine jr_iload_n ok 2 d_Ev_pushFunc_33 rfl rfl ?_
    obtain ⟨r25, e25, S25, hc25, hs⟩ := mb3_some hs
    refine jh_gV1 (Lo := fun A => wtL D g A e25 S25) ok hI hR hcc.1 m_Ev_103 (r_Ev_push (jx_l X) D g A c S t0 v2 r25 e25 S25  hc25) (sg_atk 20 rfl) rfl rfl rfl (Nat.le_of_ble_eq_true rfl) ⟨Nat.le_of_ble_eq_true rfl, Nat.le_of_ble_eq_true rfl⟩ d_Ev_pushFunc_34 (fun A25 hcb25 hst25 => ?_)
    have hcc25 : (e25.bc ≤ C0.bc ∧ e25.bs ≤ C0.bs) ∧ aS A0 A25 := ⟨hcb25, aS_tr hcc.2 hst25⟩
    obtain ⟨hb26, hs⟩ := oq_if hs
    show jw X (C0.bc - e25.bc) (C0.bs - e25.bs) (wtL D g A25 e25 S25) [(0, .ref (g 17)), (1, .int (ii v1)), (2, .int (ii v2))] 37 [.ref (g (19 + r25))]
    refine jr_astore_n [(3, .ref (g (19 + r25))), (0, .ref (g 17)), (1, .int (ii v1)), (2, .int (ii v2))] ok d_Ev_pushFunc_37 rfl (by rw [hN]; decide) rfl ?_
    refine jr_aload_n ok 1 d_Ev_pushFunc_38 rfl rfl ?_
    refine jr_get (v := .ref (g 9)) ok 20 f_Ev_29 rfl rfl d_Ev_pushFunc_39 ?_
    refine jr_iload_n ok 2 d_Ev_pushFunc_42 rfl rfl ?_
    obtain ⟨r27, S27, hc27, hs⟩ := mb2_some hs
    refine jq_cV1 ok hR m_Ev_142 (r_Pg_kindOf (jx_l X) D g A25 e25 S25 v1 r27 S27  hc27) (sg_atk 11 rfl) rfl rfl rfl (Nat.le_of_ble_eq_true rfl) ⟨Nat.le_of_ble_eq_true rfl, Nat.le_of_ble_eq_true rfl⟩ ⟨Nat.sub_le _ _, Nat.sub_le _ _⟩ d_Ev_pushFunc_43 ?_
    show jw X (C0.bc - e25.bc) (C0.bs - e25.bs) (wtL D g A25 e25 S27) [(3, .ref (g (19 + r25))), (0, .ref (g 17)), (1, .int (ii v1)), (2, .int (ii v2))] 46 [.int (ii r27)]
    refine jr_istore [(4, .int (ii r27)), (3, .ref (g (19 + r25))), (0, .ref (g 17)), (1, .int (ii v1)), (2, .int (ii v2))] ok d_Ev_pushFunc_46 (by rw [hN]; decide) rfl ?_
    refine jr_iload ok 0 d_Ev_pushFunc_48 rfl ?_
    refine jr_iconst ok d_Ev_pushFunc_50 ?_
    refine jr_wicmp_eq 61 ok rfl (show w32 5 = 5 by decide) d_Ev_pushFunc_51 (by decide) (fun c28 => ?_) (fun c28 => ?_)
    · replace hs := oq_pos c28 hs
      exact jr_lv [2, 3, 4, 1, 0] rfl (B_61 A25 e25 v1 v2 r25 r27 S27 hcc25 hb26 hs)
    · replace hs := oq_neg c28 hs
      refine jr_iload ok 0 d_Ev_pushFunc_54 rfl ?_
      refine jr_bipush ok d_Ev_pushFunc_56 (by decide +kernel) ?_
      refine jr_wicmp_ne 74 ok rfl (show w32 6 = 6 by decide) d_Ev_pushFunc_58 (by decide) (fun c29 => ?_) (fun c29 => ?_)
      · replace hs := oq_neg c29 hs
        exact jr_lv [2, 3, 4, 1, 0] rfl (B_74 A25 e25 v1 v2 r25 r27 S27 hcc25 hb26 hs)
      · replace hs := oq_pos c29 hs
        exact jr_lv [2, 3, 4, 1, 0] rfl (B_61 A25 e25 v1 v2 r25 r27 S27 hcc25 hb26 hs)
  have B_16 : ∀ (A : AW) (c : CW) (v1 : Int) (t0 : Int) (S : WS), (c.bc ≤ C0.bc ∧ c.bs ≤ C0.bs) ∧ aS A0 A → q_Ev_pushFunc_16 c v1 t0 S = some (r, c9, S9) → jw X (C0.bc - c.bc) (C0.bs - c.bs) (wtL D g A c S) [(0, .ref (g 17)), (1, .int (ii v1))] 16 [.int (ii t0)] := by
    intro A c v1 t0 S hcc hs
    rw [q_Ev_pushFunc_16] at hs
    refine jr_istore_n [(2, .int (ii t0)), (0, .ref (g 17)), (1, .int (ii v1))] ok d_Ev_pushFunc_16 rfl (by rw [hN]; decide) rfl ?_
    refine jr_aload_n ok 1 d_Ev_pushFunc_17 rfl rfl ?_
    refine jr_iload_n ok 0 d_Ev_pushFunc_18 rfl rfl ?_
    refine jr_wif_eq 32 ok rfl d_Ev_pushFunc_19 (by decide) (fun c23 => ?_) (fun c23 => ?_)
    · replace hs := oq_pos c23 hs
      refine jr_iconst ok d_Ev_pushFunc_32 ?_
      exact jr_lv [1, 2, 0] rfl (B_33 A c v1 t0 1 S hcc hs)
    · replace hs := oq_neg c23 hs
      refine jr_aload_n ok 1 d_Ev_pushFunc_22 rfl rfl ?_
      refine jr_get (v := .ref (g 12)) ok 20 f_Ev_33 rfl rfl d_Ev_pushFunc_23 ?_
      obtain ⟨r24, S24, hc24, hs⟩ := mb2_some hs
      refine jq_cV1 ok hR m_Ev_139 (r_Gr_size (jx_l X) D g A c S  r24 S24  hc24) (sg_atk 15 rfl) rfl rfl rfl (Nat.le_of_ble_eq_true rfl) ⟨Nat.le_of_ble_eq_true rfl, Nat.le_of_ble_eq_true rfl⟩ ⟨Nat.sub_le _ _, Nat.sub_le _ _⟩ d_Ev_pushFunc_26 ?_
      show jw X (C0.bc - c.bc) (C0.bs - c.bs) (wtL D g A c S24) [(2, .int (ii t0)), (0, .ref (g 17)), (1, .int (ii v1))] 29 [.int (ii r24), .ref (g 17)]
      refine jr_goto 33 ok d_Ev_pushFunc_29 (by decide) ?_
      exact jr_lv [1, 2, 0] rfl (B_33 A c v1 t0 r24 S24 hcc hs)
  refine jr_widen (cs' := C0.bc - C0.bc) (sl' := C0.bs - C0.bs) (Nat.zero_le _) (Nat.zero_le _) ?_
  show jw X (C0.bc - C0.bc) (C0.bs - C0.bs) (wtL D g A0 C0 S) [(0, .ref (g 17)), (1, .int (ii v1))] 0 []
  rw [s_Ev_pushFunc] at hs
  refine jr_aload_n ok 0 d_Ev_pushFunc_0 rfl rfl ?_
  refine jr_get (v := .ref (g 9)) ok 20 f_Ev_29 rfl rfl d_Ev_pushFunc_1 ?_
  refine jr_iload_n ok 1 d_Ev_pushFunc_4 rfl rfl ?_
  obtain ⟨r43, S43, hc43, hs⟩ := mb2_some hs
  refine jq_cV1 ok hR m_Ev_136 (r_Pg_namesOf (jx_l X) D g A0 C0 S v1 r43 S43  hc43) (sg_atk 11 rfl) rfl rfl rfl (Nat.le_of_ble_eq_true rfl) ⟨Nat.le_of_ble_eq_true rfl, Nat.le_of_ble_eq_true rfl⟩ ⟨Nat.sub_le _ _, Nat.sub_le _ _⟩ d_Ev_pushFunc_5 ?_
  show jw X (C0.bc - C0.bc) (C0.bs - C0.bs) (wtL D g A0 C0 S43) [(0, .ref (g 17)), (1, .int (ii v1))] 8 [.int (ii r43)]
  refine jr_wif_le 15 ok rfl d_Ev_pushFunc_8 (by decide) (fun c44 => ?_) (fun c44 => ?_)
  · replace hs := oq_pos c44 hs
    refine jr_iconst ok d_Ev_pushFunc_15 ?_
    exact jr_lv [0, 1] rfl (B_16 A0 C0 v1 0 S43 hcc hs)
  · replace hs := oq_neg c44 hs
    refine jr_iconst ok d_Ev_pushFunc_11 ?_
    refine jr_goto 16 ok d_Ev_pushFunc_12 (by decide) ?_
    exact jr_lv [0, 1] rfl (B_16 A0 C0 v1 1 S43 hcc hs)

def q_Ev_run_141 (k27 : CW → Int → WS → Option (Int × CW × WS)) (c : CW) (v6 : Int) (v7 : Int) (S : WS) : Option (Int × CW × WS) := k27 c (v7 + v6) S

def q_Ev_run_27 : Nat → CW → Int → WS → Option (Int × CW × WS)
  | 0, _, _, _ => none
  | n + 1, c, v7, S => mb2 (s_Pg_size c S ) (fun r18 S18 => if w32 r18 ≤ w32 v7 then mb2 (s_Ev_dropEmptyLines c S18 ) (fun r20 S20 => mb2 (s_Ev_table c S20 ) (fun r21 S21 => if r21 < 19 then mb2 (s_Gd_lines c S21 r21) (fun r23 S23 => some (r23, c, S23)) else none)) else mb2 (s_Pg_lengthOf c S18 v7) (fun r24 S24 => mb2 (s_Pg_get c S24 v7) (fun r25 S25 => if w32 r25 = 302 then mb2 (s_Pg_numberOf c S25 v7) (fun r27 S27 => mb3 (s_Ev_pushNumber c S27 r27) (fun r28 e28 S28 => q_Ev_run_141 (q_Ev_run_27 n) e28 (max 1 (w32 r24)) v7 S28)) else if w32 r25 = 310 then mb3 (s_Ev_pushFunc c S25 v7) (fun r30 e30 S30 => q_Ev_run_141 (q_Ev_run_27 n) e30 (max 1 (w32 r24)) v7 S30) else if w32 r25 = 311 then mb2 (s_Ev_negate c S25 ) (fun r32 S32 => q_Ev_run_141 (q_Ev_run_27 n) c (max 1 (w32 r24)) v7 S32) else mb2 (s_Pg_get c S25 v7) (fun r33 S33 => mb2 (s_Ev_combine c S33 r33) (fun r34 S34 => q_Ev_run_141 (q_Ev_run_27 n) c (max 1 (w32 r24)) v7 S34)))))

def s_Ev_run (C0 : CW) (S : WS) (v1 : Int64) (v3 : Int64) (v5 : Int) : Option (Int × CW × WS) := q_Ev_run_27 fU C0 0 (WS.w_ev_height (WS.w_ev_windows (WS.w_ev_width (WS.w_ev_from S v1) v3) v5) 0)
set_option maxHeartbeats 4000000 in
set_option maxRecDepth 100000 in
theorem r_Ev_run (l : Launch) (D : jd_T) (g : Nat → Nat) (A0 : AW) (C0 : CW) (S : WS) (v1 : Int64) (v3 : Int64) (v5 : Int) (r : Int) (c9 : CW) (S9 : WS)  (hs : s_Ev_run C0 S v1 v3 v5 = some (r, c9, S9)) : jgI_C l D y_Ev_run b_Ev_run 8 (some .int) { frames := 6, cells := C0.bc, slots := C0.bs, locals := 145 } [.ref (g 17), .long v1, .long v3, .int (ii v5)] (wtL D g A0 C0 S) (fun A : AW => (.returned (some (.int (ii r))), (c9.bc ≤ C0.bc ∧ c9.bs ≤ C0.bs) ∧ aS A0 A, wtL D g A c9 S9, C0.bc - c9.bc, C0.bs - c9.bs)) := by
  refine jgI_of rfl (Nat.le_of_ble_eq_true rfl) ?_
  intro X hl hR hN ok hI hnm fin
  subst hl
  have hcc : (C0.bc ≤ C0.bc ∧ C0.bs ≤ C0.bs) ∧ aS A0 A0 := ⟨⟨Nat.le_refl _, Nat.le_refl _⟩, fun _ _ _ => rfl⟩
  have B_27 : ∀ (n27 : Nat), ∀ (A : AW) (c : CW) (v7 : Int) (S : WS), (c.bc ≤ C0.bc ∧ c.bs ≤ C0.bs) ∧ aS A0 A → q_Ev_run_27 n27 c v7 S = some (r, c9, S9) → jw X (C0.bc - c.bc) (C0.bs - c.bs) (wtL D g A c S) [(0, .ref (g 17)), (7, .int (ii v7))] 27 [] := by
    intro n27
    induction n27 with
    | zero =>
      intro A c v7 S hcc hs
      rw [q_Ev_run_27] at hs; cases hs
    | succ n27 ih27 =>
      have B_141 : ∀ (A : AW) (c : CW) (v6 : Int) (v7 : Int) (S : WS), (c.bc ≤ C0.bc ∧ c.bs ≤ C0.bs) ∧ aS A0 A → q_Ev_run_141 (q_Ev_run_27 n27) c v6 v7 S = some (r, c9, S9) → jw X (C0.bc - c.bc) (C0.bs - c.bs) (wtL D g A c S) [(0, .ref (g 17)), (6, .int (ii v6)), (7, .int (ii v7))] 141 [] := by
        intro A c v6 v7 S hcc hs
        rw [q_Ev_run_141] at hs
        refine jr_iload ok 2 d_Ev_run_141 rfl ?_
        refine jr_iload ok 1 d_Ev_run_143 rfl ?_
        refine jr_iadd ok d_Ev_run_145 ?_
        refine jr_istore [(7, .int (ii (v7 + v6))), (0, .ref (g 17)), (6, .int (ii v6))] ok d_Ev_run_146 (by rw [hN]; decide) rfl ?_
        refine jr_goto 27 ok d_Ev_run_148 (by decide) ?_
        exact jr_lv [1, 0] rfl (ih27 A c (v7 + v6) S hcc hs)
      intro A c v7 S hcc hs
      rw [q_Ev_run_27] at hs
      refine jr_iload ok 1 d_Ev_run_27 rfl ?_
      refine jr_aload_n ok 0 d_Ev_run_29 rfl rfl ?_
      refine jr_get (v := .ref (g 9)) ok 20 f_Ev_29 rfl rfl d_Ev_run_30 ?_
      obtain ⟨r18, S18, hc18, hs⟩ := mb2_some hs
      refine jq_cV1 ok hR m_Ev_52 (r_Pg_size (jx_l X) D g A c S  r18 S18  hc18) (sg_atk 11 rfl) rfl rfl rfl (Nat.le_of_ble_eq_true rfl) ⟨Nat.le_of_ble_eq_true rfl, Nat.le_of_ble_eq_true rfl⟩ ⟨Nat.sub_le _ _, Nat.sub_le _ _⟩ d_Ev_run_33 ?_
      show jw X (C0.bc - c.bc) (C0.bs - c.bs) (wtL D g A c S18) [(0, .ref (g 17)), (7, .int (ii v7))] 36 [.int (ii r18), .int (ii v7)]
      refine jr_wicmp_ge 151 ok rfl rfl d_Ev_run_36 (by decide) (fun c19 => ?_) (fun c19 => ?_)
      · replace hs := oq_pos c19 hs
        refine jr_aload_n ok 0 d_Ev_run_151 rfl rfl ?_
        obtain ⟨r20, S20, hc20, hs⟩ := mb2_some hs
        refine jq_cV0 ok hR m_Ev_89 (r_Ev_dropEmptyLines (jx_l X) D g A c S18  r20 S20  hc20) (sg_atk 20 rfl) rfl rfl rfl (Nat.le_of_ble_eq_true rfl) ⟨Nat.le_of_ble_eq_true rfl, Nat.le_of_ble_eq_true rfl⟩ ⟨Nat.sub_le _ _, Nat.sub_le _ _⟩ d_Ev_run_152 ?_
        show jw X (C0.bc - c.bc) (C0.bs - c.bs) (wtL D g A c S20) [(0, .ref (g 17)), (7, .int (ii v7))] 155 []
        refine jr_aload_n ok 0 d_Ev_run_155 rfl rfl ?_
        obtain ⟨r21, S21, hc21, hs⟩ := mb2_some hs
        refine jq_cV1 ok hR m_Ev_92 (r_Ev_table (jx_l X) D g A c S20  r21 S21  hc21) (sg_atk 20 rfl) rfl rfl rfl (Nat.le_of_ble_eq_true rfl) ⟨Nat.le_of_ble_eq_true rfl, Nat.le_of_ble_eq_true rfl⟩ ⟨Nat.sub_le _ _, Nat.sub_le _ _⟩ d_Ev_run_156 ?_
        obtain ⟨hb22, hs⟩ := oq_if hs
        show jw X (C0.bc - c.bc) (C0.bs - c.bs) (wtL D g A c S21) [(0, .ref (g 17)), (7, .int (ii v7))] 159 [.ref (g (19 + r21))]
        obtain ⟨r23, S23, hc23, hs⟩ := mb2_some hs
        refine jq_cV1 ok hR m_Ev_96 (r_Gd_lines (jx_l X) D g A c S21 r21 r23 S23 hb22 hc23) (sg_atp (F := grdW D g A c S21) 23 rfl hb22 0 rfl) rfl rfl rfl (Nat.le_of_ble_eq_true rfl) ⟨Nat.le_of_ble_eq_true rfl, Nat.le_of_ble_eq_true rfl⟩ ⟨Nat.sub_le _ _, Nat.sub_le _ _⟩ d_Ev_run_159 ?_
        show jw X (C0.bc - c.bc) (C0.bs - c.bs) (wtL D g A c S23) [(0, .ref (g 17)), (7, .int (ii v7))] 162 [.int (ii r23)]
        exact jh_iret (ψ := aS A0) (Lf := wtL D g) (bc := CW.bc) (bs := CW.bs) A ok fin hcc hs d_Ev_run_162
      · replace hs := oq_neg c19 hs
        refine jr_iconst ok d_Ev_run_39 ?_
        refine jr_aload_n ok 0 d_Ev_run_40 rfl rfl ?_
        refine jr_get (v := .ref (g 9)) ok 20 f_Ev_29 rfl rfl d_Ev_run_41 ?_
        refine jr_iload ok 1 d_Ev_run_44 rfl ?_
        obtain ⟨r24, S24, hc24, hs⟩ := mb2_some hs
        refine jq_cV1 ok hR m_Ev_58 (r_Pg_lengthOf (jx_l X) D g A c S18 v7 r24 S24  hc24) (sg_atk 11 rfl) rfl rfl rfl (Nat.le_of_ble_eq_true rfl) ⟨Nat.le_of_ble_eq_true rfl, Nat.le_of_ble_eq_true rfl⟩ ⟨Nat.sub_le _ _, Nat.sub_le _ _⟩ d_Ev_run_46 ?_
        show jw X (C0.bc - c.bc) (C0.bs - c.bs) (wtL D g A c S24) [(0, .ref (g 17)), (7, .int (ii v7))] 49 [.int (ii r24), .int (ii 1)]
        refine jr_wimax ok w_1095 w_657 w_17 w_658 (show w32 1 = 1 by decide) rfl hR ⟨Nat.le_of_ble_eq_true rfl, Nat.le_of_ble_eq_true rfl⟩ ⟨Nat.sub_le _ _, Nat.sub_le _ _⟩ (Nat.le_of_ble_eq_true rfl) d_Ev_run_49 ?_
        refine jr_istore [(6, .int (ii (max 1 (w32 r24)))), (0, .ref (g 17)), (7, .int (ii v7))] ok d_Ev_run_52 (by rw [hN]; decide) rfl ?_
        refine jr_aload_n ok 1 d_Ev_run_54 rfl rfl ?_
        refine jr_get (v := .ref (g 9)) ok 20 f_Ev_29 rfl rfl d_Ev_run_55 ?_
        refine jr_iload ok 2 d_Ev_run_58 rfl ?_
        obtain ⟨r25, S25, hc25, hs⟩ := mb2_some hs
        refine jq_cV1 ok hR m_Ev_68 (r_Pg_get (jx_l X) D g A c S24 v7 r25 S25  hc25) (sg_atk 11 rfl) rfl rfl rfl (Nat.le_of_ble_eq_true rfl) ⟨Nat.le_of_ble_eq_true rfl, Nat.le_of_ble_eq_true rfl⟩ ⟨Nat.sub_le _ _, Nat.sub_le _ _⟩ d_Ev_run_60 ?_
        show jw X (C0.bc - c.bc) (C0.bs - c.bs) (wtL D g A c S25) [(6, .int (ii (max 1 (w32 r24)))), (0, .ref (g 17)), (7, .int (ii v7))] 63 [.int (ii r25)]
        by_cases c26 : w32 r25 = 302
        · replace hs := oq_pos c26 hs
          refine jr_wlook (off := 33) 96 c26 ok d_Ev_run_63 (by decide) (by decide) (by decide) ?_
          refine jr_aload_n ok 1 d_Ev_run_96 rfl rfl ?_
          refine jr_aload_n ok 1 d_Ev_run_97 rfl rfl ?_
          refine jr_get (v := .ref (g 9)) ok 20 f_Ev_29 rfl rfl d_Ev_run_98 ?_
          refine jr_iload ok 2 d_Ev_run_101 rfl ?_
          obtain ⟨r27, S27, hc27, hs⟩ := mb2_some hs
          refine jq_cV1 ok hR m_Ev_71 (r_Pg_numberOf (jx_l X) D g A c S25 v7 r27 S27  hc27) (sg_atk 11 rfl) rfl rfl rfl (Nat.le_of_ble_eq_true rfl) ⟨Nat.le_of_ble_eq_true rfl, Nat.le_of_ble_eq_true rfl⟩ ⟨Nat.sub_le _ _, Nat.sub_le _ _⟩ d_Ev_run_103 ?_
          show jw X (C0.bc - c.bc) (C0.bs - c.bs) (wtL D g A c S27) [(6, .int (ii (max 1 (w32 r24)))), (0, .ref (g 17)), (7, .int (ii v7))] 106 [.long r27, .ref (g 17)]
          obtain ⟨r28, e28, S28, hc28, hs⟩ := mb3_some hs
          refine jh_gV0 (Lo := fun A => wtL D g A e28 S28) ok hI hR hcc.1 m_Ev_75 (r_Ev_pushNumber (jx_l X) D g A c S27 r27 r28 e28 S28  hc28) (sg_atk 20 rfl) rfl rfl rfl (Nat.le_of_ble_eq_true rfl) ⟨Nat.le_of_ble_eq_true rfl, Nat.le_of_ble_eq_true rfl⟩ d_Ev_run_106 (fun A28 hcb28 hst28 => ?_)
          have hcc28 : (e28.bc ≤ C0.bc ∧ e28.bs ≤ C0.bs) ∧ aS A0 A28 := ⟨hcb28, aS_tr hcc.2 hst28⟩
          show jw X (C0.bc - e28.bc) (C0.bs - e28.bs) (wtL D g A28 e28 S28) [(6, .int (ii (max 1 (w32 r24)))), (0, .ref (g 17)), (7, .int (ii v7))] 109 []
          refine jr_goto 141 ok d_Ev_run_109 (by decide) ?_
          exact jr_lv [1, 0, 2] rfl (B_141 A28 e28 (max 1 (w32 r24)) v7 S28 hcc28 hs)
        · replace hs := oq_neg c26 hs
          by_cases c29 : w32 r25 = 310
          · replace hs := oq_pos c29 hs
            refine jr_wlook (off := 49) 112 c29 ok d_Ev_run_63 (by decide) (by decide) (by decide) ?_
            refine jr_aload_n ok 1 d_Ev_run_112 rfl rfl ?_
            refine jr_iload ok 2 d_Ev_run_113 rfl ?_
            obtain ⟨r30, e30, S30, hc30, hs⟩ := mb3_some hs
            refine jh_gV0 (Lo := fun A => wtL D g A e30 S30) ok hI hR hcc.1 m_Ev_79 (r_Ev_pushFunc (jx_l X) D g A c S25 v7 r30 e30 S30  hc30) (sg_atk 20 rfl) rfl rfl rfl (Nat.le_of_ble_eq_true rfl) ⟨Nat.le_of_ble_eq_true rfl, Nat.le_of_ble_eq_true rfl⟩ d_Ev_run_115 (fun A30 hcb30 hst30 => ?_)
            have hcc30 : (e30.bc ≤ C0.bc ∧ e30.bs ≤ C0.bs) ∧ aS A0 A30 := ⟨hcb30, aS_tr hcc.2 hst30⟩
            show jw X (C0.bc - e30.bc) (C0.bs - e30.bs) (wtL D g A30 e30 S30) [(6, .int (ii (max 1 (w32 r24)))), (0, .ref (g 17)), (7, .int (ii v7))] 118 []
            refine jr_goto 141 ok d_Ev_run_118 (by decide) ?_
            exact jr_lv [1, 0, 2] rfl (B_141 A30 e30 (max 1 (w32 r24)) v7 S30 hcc30 hs)
          · replace hs := oq_neg c29 hs
            by_cases c31 : w32 r25 = 311
            · replace hs := oq_pos c31 hs
              refine jr_wlook (off := 58) 121 c31 ok d_Ev_run_63 (by decide) (by decide) (by decide) ?_
              refine jr_aload_n ok 1 d_Ev_run_121 rfl rfl ?_
              obtain ⟨r32, S32, hc32, hs⟩ := mb2_some hs
              refine jq_cV0 ok hR m_Ev_83 (r_Ev_negate (jx_l X) D g A c S25  r32 S32  hc32) (sg_atk 20 rfl) rfl rfl rfl (Nat.le_of_ble_eq_true rfl) ⟨Nat.le_of_ble_eq_true rfl, Nat.le_of_ble_eq_true rfl⟩ ⟨Nat.sub_le _ _, Nat.sub_le _ _⟩ d_Ev_run_122 ?_
              show jw X (C0.bc - c.bc) (C0.bs - c.bs) (wtL D g A c S32) [(6, .int (ii (max 1 (w32 r24)))), (0, .ref (g 17)), (7, .int (ii v7))] 125 []
              refine jr_goto 141 ok d_Ev_run_125 (by decide) ?_
              exact jr_lv [1, 0, 2] rfl (B_141 A c (max 1 (w32 r24)) v7 S32 hcc hs)
            · replace hs := oq_neg c31 hs
              refine jr_wlook (off := 65) 128 rfl ok d_Ev_run_63 (by decide) (by simp [Op.lookupswitch.offset, Ne.symm c26, Ne.symm c29, Ne.symm c31] <;> rfl) (by decide) ?_
              refine jr_aload_n ok 1 d_Ev_run_128 rfl rfl ?_
              refine jr_aload_n ok 1 d_Ev_run_129 rfl rfl ?_
              refine jr_get (v := .ref (g 9)) ok 20 f_Ev_29 rfl rfl d_Ev_run_130 ?_
              refine jr_iload ok 2 d_Ev_run_133 rfl ?_
              obtain ⟨r33, S33, hc33, hs⟩ := mb2_some hs
              refine jq_cV1 ok hR m_Ev_68 (r_Pg_get (jx_l X) D g A c S25 v7 r33 S33  hc33) (sg_atk 11 rfl) rfl rfl rfl (Nat.le_of_ble_eq_true rfl) ⟨Nat.le_of_ble_eq_true rfl, Nat.le_of_ble_eq_true rfl⟩ ⟨Nat.sub_le _ _, Nat.sub_le _ _⟩ d_Ev_run_135 ?_
              show jw X (C0.bc - c.bc) (C0.bs - c.bs) (wtL D g A c S33) [(6, .int (ii (max 1 (w32 r24)))), (0, .ref (g 17)), (7, .int (ii v7))] 138 [.int (ii r33), .ref (g 17)]
              obtain ⟨r34, S34, hc34, hs⟩ := mb2_some hs
              refine jq_cV0 ok hR m_Ev_86 (r_Ev_combine (jx_l X) D g A c S33 r33 r34 S34  hc34) (sg_atk 20 rfl) rfl rfl rfl (Nat.le_of_ble_eq_true rfl) ⟨Nat.le_of_ble_eq_true rfl, Nat.le_of_ble_eq_true rfl⟩ ⟨Nat.sub_le _ _, Nat.sub_le _ _⟩ d_Ev_run_138 ?_
              show jw X (C0.bc - c.bc) (C0.bs - c.bs) (wtL D g A c S34) [(6, .int (ii (max 1 (w32 r24)))), (0, .ref (g 17)), (7, .int (ii v7))] 141 []
              exact jr_lv [1, 0, 2] rfl (B_141 A c (max 1 (w32 r24)) v7 S34 hcc hs)
  refine jr_widen (cs' := C0.bc - C0.bc) (sl' := C0.bs - C0.bs) (Nat.zero_le _) (Nat.zero_le _) ?_
  show jw X (C0.bc - C0.bc) (C0.bs - C0.bs) (wtL D g A0 C0 S) [(0, .ref (g 17)), (1, .long v1), (3, .long v3), (5, .int (ii v5))] 0 []
  rw [s_Ev_run] at hs
  refine jr_aload_n ok 0 d_Ev_run_0 rfl rfl ?_
  refine jr_lload_n ok 1 d_Ev_run_1 rfl rfl ?_
  refine jr_put (wtL D g A0 C0 (WS.w_ev_from S v1)) ok 20 f_Ev_38 rfl rfl rfl (Nat.le_of_ble_eq_true rfl) rfl d_Ev_run_2 ?_
  refine jr_aload_n ok 0 d_Ev_run_5 rfl rfl ?_
  refine jr_lload_n ok 2 d_Ev_run_6 rfl rfl ?_
  refine jr_put (wtL D g A0 C0 (WS.w_ev_width (WS.w_ev_from S v1) v3)) ok 20 f_Ev_42 rfl rfl rfl (Nat.le_of_ble_eq_true rfl) rfl d_Ev_run_7 ?_
  refine jr_aload_n ok 0 d_Ev_run_10 rfl rfl ?_
  refine jr_iload ok 3 d_Ev_run_11 rfl ?_
  refine jr_put (wtL D g A0 C0 (WS.w_ev_windows (WS.w_ev_width (WS.w_ev_from S v1) v3) v5)) ok 20 f_Ev_45 rfl rfl rfl (Nat.le_of_ble_eq_true rfl) rfl d_Ev_run_13 ?_
  refine jr_aload_n ok 0 d_Ev_run_16 rfl rfl ?_
  refine jr_iconst ok d_Ev_run_17 ?_
  refine jr_put (wtL D g A0 C0 (WS.w_ev_height (WS.w_ev_windows (WS.w_ev_width (WS.w_ev_from S v1) v3) v5) 0)) ok 20 f_Ev_49 rfl rfl rfl (Nat.le_of_ble_eq_true rfl) rfl d_Ev_run_18 ?_
  refine jr_iconst ok d_Ev_run_21 ?_
  refine jr_istore [(6, .int (ii 1)), (0, .ref (g 17)), (1, .long v1), (3, .long v3), (5, .int (ii v5))] ok d_Ev_run_22 (by rw [hN]; decide) rfl ?_
  refine jr_iconst ok d_Ev_run_24 ?_
  refine jr_istore [(7, .int (ii 0)), (6, .int (ii 1)), (0, .ref (g 17)), (1, .long v1), (3, .long v3), (5, .int (ii v5))] ok d_Ev_run_25 (by rw [hN]; decide) rfl ?_
  exact jr_lv [2, 0] rfl (B_27 fU A0 C0 0 (WS.w_ev_height (WS.w_ev_windows (WS.w_ev_width (WS.w_ev_from S v1) v3) v5) 0) hcc hs)

def q_QR_readNames_124 (k10 : CW → Int → Int → Int → WS → Option (Unit × CW × WS)) (c : CW) (v1 : Int) (v3 : Int) (S : WS) : Option (Unit × CW × WS) := mb2 (s_QR_takeComma c S ) (fun r35 S35 => k10 c v1 r35 (v3 + (-1)) S35)

def q_QR_readNames_85 (k10 : CW → Int → Int → Int → WS → Option (Unit × CW × WS)) (c : CW) (v1 : Int) (v3 : Int) (S : WS) : Option (Unit × CW × WS) := mb2 (s_QR_refuse c S 4) (fun r34 S34 => q_QR_readNames_124 k10 c v1 v3 S34)

def q_QR_readNames_10 : Nat → CW → Int → Int → Int → WS → Option (Unit × CW × WS)
  | 0, _, _, _, _, _ => none
  | n + 1, c, v1, v2, v3, S => if w32 v3 ≤ 0 then some ((), c, S) else if w32 v2 = 0 then some ((), c, S) else mb2 (s_Lx_at c S ) (fun r21 S21 => mb2 (s_Lx_behind c S21 ) (fun r22 S22 => mb2 (s_Lx_kind c S22 ) (fun r23 S23 => if w32 r23 = 303 then mb2 (s_Pg_namesOf c S23 v1) (fun r25 S25 => if 6 ≤ w32 r25 then q_QR_readNames_85 (q_QR_readNames_10 n) c v1 v3 S25 else mb2 (s_QR_hasName c S25 v1 r21 (r22 - r21)) (fun r27 S27 => if w32 r27 = 0 then mb2 (s_Pg_addName c S27 v1) (fun r29 S29 => mb2 (s_Lx_behind c S29 ) (fun r30 S30 => mb3 (s_Pg_addSlice c S30 r21 r30) (fun r31 e31 S31 => mb2 (s_Lx_advance e31 S31 ) (fun r32 S32 => q_QR_readNames_124 (q_QR_readNames_10 n) e31 v1 v3 S32)))) else q_QR_readNames_85 (q_QR_readNames_10 n) c v1 v3 S27)) else mb2 (s_QR_refuse c S23 2) (fun r33 S33 => q_QR_readNames_124 (q_QR_readNames_10 n) c v1 v3 S33))))

def s_QR_readNames (C0 : CW) (S : WS) (v1 : Int) : Option (Unit × CW × WS) := mb2 (s_Tp_size C0 S ) (fun r36 S36 => q_QR_readNames_10 fU C0 v1 1 r36 S36)
set_option maxHeartbeats 4000000 in
set_option maxRecDepth 100000 in
theorem r_QR_readNames (l : Launch) (D : jd_T) (g : Nat → Nat) (A0 : AW) (C0 : CW) (S : WS) (v1 : Int) (r : Unit) (c9 : CW) (S9 : WS)  (hs : s_QR_readNames C0 S v1 = some (r, c9, S9)) : jgI_C l D y_QR_readNames b_QR_readNames 6 none { frames := 4, cells := C0.bc, slots := C0.bs, locals := 105 } [.ref (g 10), .int (ii v1)] (wtL D g A0 C0 S) (fun A : AW => (.returned (none), (c9.bc ≤ C0.bc ∧ c9.bs ≤ C0.bs) ∧ aS A0 A, wtL D g A c9 S9, C0.bc - c9.bc, C0.bs - c9.bs)) := by
  refine jgI_of rfl (Nat.le_of_ble_eq_true rfl) ?_
  intro X hl hR hN ok hI hnm fin
  subst hl
  have hcc : (C0.bc ≤ C0.bc ∧ C0.bs ≤ C0.bs) ∧ aS A0 A0 := ⟨⟨Nat.le_refl _, Nat.le_refl _⟩, fun _ _ _ => rfl⟩
  have B_10 : ∀ (n10 : Nat), ∀ (A : AW) (c : CW) (v1 : Int) (v2 : Int) (v3 : Int) (S : WS), (c.bc ≤ C0.bc ∧ c.bs ≤ C0.bs) ∧ aS A0 A → q_QR_readNames_10 n10 c v1 v2 v3 S = some (r, c9, S9) → jw X (C0.bc - c.bc) (C0.bs - c.bs) (wtL D g A c S) [(0, .ref (g 10)), (1, .int (ii v1)), (2, .int (ii v2)), (3, .int (ii v3))] 10 [] := by
    intro n10
    induction n10 with
    | zero =>
      intro A c v1 v2 v3 S hcc hs
      rw [q_QR_readNames_10] at hs; cases hs
    | succ n10 ih10 =>
      have B_124 : ∀ (A : AW) (c : CW) (v1 : Int) (v3 : Int) (S : WS), (c.bc ≤ C0.bc ∧ c.bs ≤ C0.bs) ∧ aS A0 A → q_QR_readNames_124 (q_QR_readNames_10 n10) c v1 v3 S = some (r, c9, S9) → jw X (C0.bc - c.bc) (C0.bs - c.bs) (wtL D g A c S) [(0, .ref (g 10)), (1, .int (ii v1)), (3, .int (ii v3))] 124 [] := by
        intro A c v1 v3 S hcc hs
        rw [q_QR_readNames_124] at hs
        refine jr_aload_n ok 0 d_QR_readNames_124 rfl rfl ?_
        obtain ⟨r35, S35, hc35, hs⟩ := mb2_some hs
        refine jq_cV1 ok hR m_QR_180 (r_QR_takeComma (jx_l X) D g A c S  r35 S35  hc35) (sg_atk 13 rfl) rfl rfl rfl (Nat.le_of_ble_eq_true rfl) ⟨Nat.le_of_ble_eq_true rfl, Nat.le_of_ble_eq_true rfl⟩ ⟨Nat.sub_le _ _, Nat.sub_le _ _⟩ d_QR_readNames_125 ?_
        show jw X (C0.bc - c.bc) (C0.bs - c.bs) (wtL D g A c S35) [(0, .ref (g 10)), (1, .int (ii v1)), (3, .int (ii v3))] 128 [.int (ii r35)]
        refine jr_istore_n [(2, .int (ii r35)), (0, .ref (g 10)), (1, .int (ii v1)), (3, .int (ii v3))] ok d_QR_readNames_128 rfl (by rw [hN]; decide) rfl ?_
        refine jr_iinc [(3, .int (ii (v3 + (-1)))), (2, .int (ii r35)), (0, .ref (g 10)), (1, .int (ii v1))] 3 ok d_QR_readNames_129 rfl (by rw [hN]; decide) rfl ?_
        refine jr_goto 10 ok d_QR_readNames_132 (by decide) ?_
        exact jr_lv [2, 3, 1, 0] rfl (ih10 A c v1 r35 (v3 + (-1)) S35 hcc hs)
      have B_85 : ∀ (A : AW) (c : CW) (v1 : Int) (v3 : Int) (S : WS), (c.bc ≤ C0.bc ∧ c.bs ≤ C0.bs) ∧ aS A0 A → q_QR_readNames_85 (q_QR_readNames_10 n10) c v1 v3 S = some (r, c9, S9) → jw X (C0.bc - c.bc) (C0.bs - c.bs) (wtL D g A c S) [(0, .ref (g 10)), (1, .int (ii v1)), (3, .int (ii v3))] 85 [] := by
        intro A c v1 v3 S hcc hs
        rw [q_QR_readNames_85] at hs
        refine jr_aload_n ok 0 d_QR_readNames_85 rfl rfl ?_
        refine jr_iconst ok d_QR_readNames_86 ?_
        obtain ⟨r34, S34, hc34, hs⟩ := mb2_some hs
        refine jq_cV0 ok hR m_QR_57 (r_QR_refuse (jx_l X) D g A c S 4 r34 S34  hc34) (sg_atk 13 rfl) rfl rfl rfl (Nat.le_of_ble_eq_true rfl) ⟨Nat.le_of_ble_eq_true rfl, Nat.le_of_ble_eq_true rfl⟩ ⟨Nat.sub_le _ _, Nat.sub_le _ _⟩ d_QR_readNames_87 ?_
        show jw X (C0.bc - c.bc) (C0.bs - c.bs) (wtL D g A c S34) [(0, .ref (g 10)), (1, .int (ii v1)), (3, .int (ii v3))] 90 []
        refine jr_goto 124 ok d_QR_readNames_90 (by decide) ?_
        exact jr_lv [0, 1, 2] rfl (B_124 A c v1 v3 S34 hcc hs)
      intro A c v1 v2 v3 S hcc hs
      rw [q_QR_readNames_10] at hs
      refine jr_iload_n ok 3 d_QR_readNames_10 rfl rfl ?_
      refine jr_wif_le 135 ok rfl d_QR_readNames_11 (by decide) (fun c19 => ?_) (fun c19 => ?_)
      · replace hs := oq_pos c19 hs
        exact jh_vret (ψ := aS A0) (Lf := wtL D g) (bc := CW.bc) (bs := CW.bs) A ok fin hcc hs d_QR_readNames_135
      · replace hs := oq_neg c19 hs
        refine jr_iload_n ok 2 d_QR_readNames_14 rfl rfl ?_
        refine jr_wif_eq 135 ok rfl d_QR_readNames_15 (by decide) (fun c20 => ?_) (fun c20 => ?_)
        · replace hs := oq_pos c20 hs
          exact jh_vret (ψ := aS A0) (Lf := wtL D g) (bc := CW.bc) (bs := CW.bs) A ok fin hcc hs d_QR_readNames_135
        · replace hs := oq_neg c20 hs
          refine jr_aload_n ok 0 d_QR_readNames_18 rfl rfl ?_
          refine jr_get (v := .ref (g 11)) ok 13 f_QR_24 rfl rfl d_QR_readNames_19 ?_
          obtain ⟨r21, S21, hc21, hs⟩ := mb2_some hs
          refine jq_cV1 ok hR m_QR_61 (r_Lx_at (jx_l X) D g A c S  r21 S21  hc21) (sg_atk 14 rfl) rfl rfl rfl (Nat.le_of_ble_eq_true rfl) ⟨Nat.le_of_ble_eq_true rfl, Nat.le_of_ble_eq_true rfl⟩ ⟨Nat.sub_le _ _, Nat.sub_le _ _⟩ d_QR_readNames_22 ?_
          show jw X (C0.bc - c.bc) (C0.bs - c.bs) (wtL D g A c S21) [(0, .ref (g 10)), (1, .int (ii v1)), (2, .int (ii v2)), (3, .int (ii v3))] 25 [.int (ii r21)]
          refine jr_istore [(4, .int (ii r21)), (0, .ref (g 10)), (1, .int (ii v1)), (2, .int (ii v2)), (3, .int (ii v3))] ok d_QR_readNames_25 (by rw [hN]; decide) rfl ?_
          refine jr_aload_n ok 1 d_QR_readNames_27 rfl rfl ?_
          refine jr_get (v := .ref (g 11)) ok 13 f_QR_24 rfl rfl d_QR_readNames_28 ?_
          obtain ⟨r22, S22, hc22, hs⟩ := mb2_some hs
          refine jq_cV1 ok hR m_QR_166 (r_Lx_behind (jx_l X) D g A c S21  r22 S22  hc22) (sg_atk 14 rfl) rfl rfl rfl (Nat.le_of_ble_eq_true rfl) ⟨Nat.le_of_ble_eq_true rfl, Nat.le_of_ble_eq_true rfl⟩ ⟨Nat.sub_le _ _, Nat.sub_le _ _⟩ d_QR_readNames_31 ?_
          show jw X (C0.bc - c.bc) (C0.bs - c.bs) (wtL D g A c S22) [(4, .int (ii r21)), (0, .ref (g 10)), (1, .int (ii v1)), (2, .int (ii v2)), (3, .int (ii v3))] 34 [.int (ii r22)]
          refine jr_iload ok 0 d_QR_readNames_34 rfl ?_
          refine jr_isub ok d_QR_readNames_36 ?_
          refine jr_istore [(5, .int (ii (r22 - r21))), (4, .int (ii r21)), (0, .ref (g 10)), (1, .int (ii v1)), (2, .int (ii v2)), (3, .int (ii v3))] ok d_QR_readNames_37 (by rw [hN]; decide) rfl ?_
          refine jr_aload_n ok 2 d_QR_readNames_39 rfl rfl ?_
          refine jr_get (v := .ref (g 11)) ok 13 f_QR_24 rfl rfl d_QR_readNames_40 ?_
          obtain ⟨r23, S23, hc23, hs⟩ := mb2_some hs
          refine jq_cV1 ok hR m_QR_53 (r_Lx_kind (jx_l X) D g A c S22  r23 S23  hc23) (sg_atk 14 rfl) rfl rfl rfl (Nat.le_of_ble_eq_true rfl) ⟨Nat.le_of_ble_eq_true rfl, Nat.le_of_ble_eq_true rfl⟩ ⟨Nat.sub_le _ _, Nat.sub_le _ _⟩ d_QR_readNames_43 ?_
          show jw X (C0.bc - c.bc) (C0.bs - c.bs) (wtL D g A c S23) [(5, .int (ii (r22 - r21))), (4, .int (ii r21)), (0, .ref (g 10)), (1, .int (ii v1)), (2, .int (ii v2)), (3, .int (ii v3))] 46 [.int (ii r23)]
          refine jr_sipush ok d_QR_readNames_46 (by decide +kernel) ?_
          refine jr_wicmp_eq 60 ok rfl (show w32 303 = 303 by decide) d_QR_readNames_49 (by decide) (fun c24 => ?_) (fun c24 => ?_)
          · replace hs := oq_pos c24 hs
            refine jr_aload_n ok 2 d_QR_readNames_60 rfl rfl ?_
            refine jr_get (v := .ref (g 9)) ok 13 f_QR_15 rfl rfl d_QR_readNames_61 ?_
            refine jr_iload_n ok 3 d_QR_readNames_64 rfl rfl ?_
            obtain ⟨r25, S25, hc25, hs⟩ := mb2_some hs
            refine jq_cV1 ok hR m_QR_99 (r_Pg_namesOf (jx_l X) D g A c S23 v1 r25 S25  hc25) (sg_atk 11 rfl) rfl rfl rfl (Nat.le_of_ble_eq_true rfl) ⟨Nat.le_of_ble_eq_true rfl, Nat.le_of_ble_eq_true rfl⟩ ⟨Nat.sub_le _ _, Nat.sub_le _ _⟩ d_QR_readNames_65 ?_
            show jw X (C0.bc - c.bc) (C0.bs - c.bs) (wtL D g A c S25) [(5, .int (ii (r22 - r21))), (4, .int (ii r21)), (0, .ref (g 10)), (1, .int (ii v1)), (2, .int (ii v2)), (3, .int (ii v3))] 68 [.int (ii r25)]
            refine jr_bipush ok d_QR_readNames_68 (by decide +kernel) ?_
            refine jr_wicmp_ge 85 ok rfl (show w32 6 = 6 by decide) d_QR_readNames_70 (by decide) (fun c26 => ?_) (fun c26 => ?_)
            · replace hs := oq_pos c26 hs
              exact jr_lv [2, 3, 5] rfl (B_85 A c v1 v3 S25 hcc hs)
            · replace hs := oq_neg c26 hs
              refine jr_aload_n ok 2 d_QR_readNames_73 rfl rfl ?_
              refine jr_iload_n ok 3 d_QR_readNames_74 rfl rfl ?_
              refine jr_iload ok 1 d_QR_readNames_75 rfl ?_
              refine jr_iload ok 0 d_QR_readNames_77 rfl ?_
              obtain ⟨r27, S27, hc27, hs⟩ := mb2_some hs
              refine jq_cV1 ok hR m_QR_169 (r_QR_hasName (jx_l X) D g A c S25 v1 r21 (r22 - r21) r27 S27  hc27) (sg_atk 13 rfl) rfl rfl rfl (Nat.le_of_ble_eq_true rfl) ⟨Nat.le_of_ble_eq_true rfl, Nat.le_of_ble_eq_true rfl⟩ ⟨Nat.sub_le _ _, Nat.sub_le _ _⟩ d_QR_readNames_79 ?_
              show jw X (C0.bc - c.bc) (C0.bs - c.bs) (wtL D g A c S27) [(5, .int (ii (r22 - r21))), (4, .int (ii r21)), (0, .ref (g 10)), (1, .int (ii v1)), (2, .int (ii v2)), (3, .int (ii v3))] 82 [.int (ii r27)]
              refine jr_wif_eq 93 ok rfl d_QR_readNames_82 (by decide) (fun c28 => ?_) (fun c28 => ?_)
              · replace hs := oq_pos c28 hs
                refine jr_aload_n ok 2 d_QR_readNames_93 rfl rfl ?_
                refine jr_get (v := .ref (g 9)) ok 13 f_QR_15 rfl rfl d_QR_readNames_94 ?_
                refine jr_iload_n ok 3 d_QR_readNames_97 rfl rfl ?_
                obtain ⟨r29, S29, hc29, hs⟩ := mb2_some hs
                refine jq_cV0 ok hR m_QR_173 (r_Pg_addName (jx_l X) D g A c S27 v1 r29 S29  hc29) (sg_atk 11 rfl) rfl rfl rfl (Nat.le_of_ble_eq_true rfl) ⟨Nat.le_of_ble_eq_true rfl, Nat.le_of_ble_eq_true rfl⟩ ⟨Nat.sub_le _ _, Nat.sub_le _ _⟩ d_QR_readNames_98 ?_
                show jw X (C0.bc - c.bc) (C0.bs - c.bs) (wtL D g A c S29) [(5, .int (ii (r22 - r21))), (4, .int (ii r21)), (0, .ref (g 10)), (1, .int (ii v1)), (2, .int (ii v2)), (3, .int (ii v3))] 101 []
                refine jr_aload_n ok 2 d_QR_readNames_101 rfl rfl ?_
                refine jr_get (v := .ref (g 9)) ok 13 f_QR_15 rfl rfl d_QR_readNames_102 ?_
                refine jr_iload ok 1 d_QR_readNames_105 rfl ?_
                refine jr_aload_n ok 2 d_QR_readNames_107 rfl rfl ?_
                refine jr_get (v := .ref (g 11)) ok 13 f_QR_24 rfl rfl d_QR_readNames_108 ?_
                obtain ⟨r30, S30, hc30, hs⟩ := mb2_some hs
                refine jq_cV1 ok hR m_QR_166 (r_Lx_behind (jx_l X) D g A c S29  r30 S30  hc30) (sg_atk 14 rfl) rfl rfl rfl (Nat.le_of_ble_eq_true rfl) ⟨Nat.le_of_ble_eq_true rfl, Nat.le_of_ble_eq_true rfl⟩ ⟨Nat.sub_le _ _, Nat.sub_le _ _⟩ d_QR_readNames_111 ?_
                show jw X (C0.bc - c.bc) (C0.bs - c.bs) (wtL D g A c S30) [(5, .int (ii (r22 - r21))), (4, .int (ii r21)), (0, .ref (g 10)), (1, .int (ii v1)), (2, .int (ii v2)), (3, .int (ii v3))] 114 [.int (ii r30), .int (ii r21), .ref (g 9)]
                obtain ⟨r31, e31, S31, hc31, hs⟩ := mb3_some hs
                refine jh_gV0 (Lo := fun A => wtL D g A e31 S31) ok hI hR hcc.1 m_QR_176 (r_Pg_addSlice (jx_l X) D g A c S30 r21 r30 r31 e31 S31  hc31) (sg_atk 11 rfl) rfl rfl rfl (Nat.le_of_ble_eq_true rfl) ⟨Nat.le_of_ble_eq_true rfl, Nat.le_of_ble_eq_true rfl⟩ d_QR_readNames_114 (fun A31 hcb31 hst31 => ?_)
                have hcc31 : (e31.bc ≤ C0.bc ∧ e31.bs ≤ C0.bs) ∧ aS A0 A31 := ⟨hcb31, aS_tr hcc.2 hst31⟩
                show jw X (C0.bc - e31.bc) (C0.bs - e31.bs) (wtL D g A31 e31 S31) [(5, .int (ii (r22 - r21))), (4, .int (ii r21)), (0, .ref (g 10)), (1, .int (ii v1)), (2, .int (ii v2)), (3, .int (ii v3))] 117 []
                refine jr_aload_n ok 2 d_QR_readNames_117 rfl rfl ?_
                refine jr_get (v := .ref (g 11)) ok 13 f_QR_24 rfl rfl d_QR_readNames_118 ?_
                obtain ⟨r32, S32, hc32, hs⟩ := mb2_some hs
                refine jq_cV0 ok hR m_QR_67 (r_Lx_advance (jx_l X) D g A31 e31 S31  r32 S32  hc32) (sg_atk 14 rfl) rfl rfl rfl (Nat.le_of_ble_eq_true rfl) ⟨Nat.le_of_ble_eq_true rfl, Nat.le_of_ble_eq_true rfl⟩ ⟨Nat.sub_le _ _, Nat.sub_le _ _⟩ d_QR_readNames_121 ?_
                show jw X (C0.bc - e31.bc) (C0.bs - e31.bs) (wtL D g A31 e31 S32) [(5, .int (ii (r22 - r21))), (4, .int (ii r21)), (0, .ref (g 10)), (1, .int (ii v1)), (2, .int (ii v2)), (3, .int (ii v3))] 124 []
                exact jr_lv [2, 3, 5] rfl (B_124 A31 e31 v1 v3 S32 hcc31 hs)
              · replace hs := oq_neg c28 hs
                exact jr_lv [2, 3, 5] rfl (B_85 A c v1 v3 S27 hcc hs)
          · replace hs := oq_neg c24 hs
            refine jr_aload_n ok 2 d_QR_readNames_52 rfl rfl ?_
            refine jr_iconst ok d_QR_readNames_53 ?_
            obtain ⟨r33, S33, hc33, hs⟩ := mb2_some hs
            refine jq_cV0 ok hR m_QR_57 (r_QR_refuse (jx_l X) D g A c S23 2 r33 S33  hc33) (sg_atk 13 rfl) rfl rfl rfl (Nat.le_of_ble_eq_true rfl) ⟨Nat.le_of_ble_eq_true rfl, Nat.le_of_ble_eq_true rfl⟩ ⟨Nat.sub_le _ _, Nat.sub_le _ _⟩ d_QR_readNames_54 ?_
            show jw X (C0.bc - c.bc) (C0.bs - c.bs) (wtL D g A c S33) [(5, .int (ii (r22 - r21))), (4, .int (ii r21)), (0, .ref (g 10)), (1, .int (ii v1)), (2, .int (ii v2)), (3, .int (ii v3))] 57 []
            refine jr_goto 124 ok d_QR_readNames_57 (by decide) ?_
            exact jr_lv [2, 3, 5] rfl (B_124 A c v1 v3 S33 hcc hs)
  refine jr_widen (cs' := C0.bc - C0.bc) (sl' := C0.bs - C0.bs) (Nat.zero_le _) (Nat.zero_le _) ?_
  show jw X (C0.bc - C0.bc) (C0.bs - C0.bs) (wtL D g A0 C0 S) [(0, .ref (g 10)), (1, .int (ii v1))] 0 []
  rw [s_QR_readNames] at hs
  refine jr_iconst ok d_QR_readNames_0 ?_
  refine jr_istore_n [(2, .int (ii 1)), (0, .ref (g 10)), (1, .int (ii v1))] ok d_QR_readNames_1 rfl (by rw [hN]; decide) rfl ?_
  refine jr_aload_n ok 1 d_QR_readNames_2 rfl rfl ?_
  refine jr_get (v := .ref (g 1)) ok 13 f_QR_9 rfl rfl d_QR_readNames_3 ?_
  obtain ⟨r36, S36, hc36, hs⟩ := mb2_some hs
  refine jq_cV1 ok hR m_QR_73 (r_Tp_size (jx_l X) D g A0 C0 S  r36 S36  hc36) (sg_atk 1 rfl) rfl rfl rfl (Nat.le_of_ble_eq_true rfl) ⟨Nat.le_of_ble_eq_true rfl, Nat.le_of_ble_eq_true rfl⟩ ⟨Nat.sub_le _ _, Nat.sub_le _ _⟩ d_QR_readNames_6 ?_
  show jw X (C0.bc - C0.bc) (C0.bs - C0.bs) (wtL D g A0 C0 S36) [(2, .int (ii 1)), (0, .ref (g 10)), (1, .int (ii v1))] 9 [.int (ii r36)]
  refine jr_istore_n [(3, .int (ii r36)), (2, .int (ii 1)), (0, .ref (g 10)), (1, .int (ii v1))] ok d_QR_readNames_9 rfl (by rw [hN]; decide) rfl ?_
  exact jr_lv [2, 3, 1, 0] rfl (B_10 fU A0 C0 v1 1 r36 S36 hcc hs)

def q_QR_readMatches_94 (k10 : CW → Int → Int → Int → WS → Option (Unit × CW × WS)) (c : CW) (v1 : Int) (v3 : Int) (t0 : Int) (S : WS) : Option (Unit × CW × WS) := mb2 (s_QR_take c S t0) (fun r34 S34 => mb2 (s_Lx_at c S34 ) (fun r35 S35 => mb2 (s_Lx_behind c S35 ) (fun r36 S36 => mb3 (s_Pg_addSlice c S36 (r35 + 1) (r36 - 1)) (fun r37 e37 S37 => mb2 (s_QR_take e37 S37 304) (fun r38 S38 => mb2 (s_QR_takeComma e37 S38 ) (fun r39 S39 => k10 e37 v1 r39 (v3 + (-1)) S39))))))

def q_QR_readMatches_10 : Nat → CW → Int → Int → Int → WS → Option (Unit × CW × WS)
  | 0, _, _, _, _, _ => none
  | n + 1, c, v1, v2, v3, S => if w32 v3 ≤ 0 then some ((), c, S) else if w32 v2 = 0 then some ((), c, S) else mb2 (s_Pg_addMatch c S v1) (fun r23 S23 => mb2 (s_Lx_at c S23 ) (fun r24 S24 => mb2 (s_Lx_behind c S24 ) (fun r25 S25 => mb3 (s_Pg_addSlice c S25 r24 r25) (fun r26 e26 S26 => mb2 (s_QR_take e26 S26 303) (fun r27 S27 => mb2 (s_Lx_kind e26 S27 ) (fun r28 S28 => mb3 (s_Pg_add e26 S28 r28) (fun r29 e29 S29 => mb2 (s_Lx_kind e29 S29 ) (fun r30 S30 => mb1 (s_QR_isMatchSign r30) (fun r31 => if w32 r31 = 0 then q_QR_readMatches_94 (q_QR_readMatches_10 n) e29 v1 v3 61 S30 else mb2 (s_Lx_kind e29 S30 ) (fun r33 S33 => q_QR_readMatches_94 (q_QR_readMatches_10 n) e29 v1 v3 r33 S33))))))))))

def s_QR_readMatches (C0 : CW) (S : WS) (v1 : Int) : Option (Unit × CW × WS) := mb2 (s_Tp_size C0 S ) (fun r40 S40 => q_QR_readMatches_10 fU C0 v1 1 r40 S40)
set_option maxHeartbeats 4000000 in
set_option maxRecDepth 100000 in
theorem r_QR_readMatches (l : Launch) (D : jd_T) (g : Nat → Nat) (A0 : AW) (C0 : CW) (S : WS) (v1 : Int) (r : Unit) (c9 : CW) (S9 : WS)  (hs : s_QR_readMatches C0 S v1 = some (r, c9, S9)) : jgI_C l D y_QR_readMatches b_QR_readMatches 4 none { frames := 4, cells := C0.bc, slots := C0.bs, locals := 105 } [.ref (g 10), .int (ii v1)] (wtL D g A0 C0 S) (fun A : AW => (.returned (none), (c9.bc ≤ C0.bc ∧ c9.bs ≤ C0.bs) ∧ aS A0 A, wtL D g A c9 S9, C0.bc - c9.bc, C0.bs - c9.bs)) := by
  refine jgI_of rfl (Nat.le_of_ble_eq_true rfl) ?_
  intro X hl hR hN ok hI hnm fin
  subst hl
  have hcc : (C0.bc ≤ C0.bc ∧ C0.bs ≤ C0.bs) ∧ aS A0 A0 := ⟨⟨Nat.le_refl _, Nat.le_refl _⟩, fun _ _ _ => rfl⟩
  have B_10 : ∀ (n10 : Nat), ∀ (A : AW) (c : CW) (v1 : Int) (v2 : Int) (v3 : Int) (S : WS), (c.bc ≤ C0.bc ∧ c.bs ≤ C0.bs) ∧ aS A0 A → q_QR_readMatches_10 n10 c v1 v2 v3 S = some (r, c9, S9) → jw X (C0.bc - c.bc) (C0.bs - c.bs) (wtL D g A c S) [(0, .ref (g 10)), (1, .int (ii v1)), (2, .int (ii v2)), (3, .int (ii v3))] 10 [] := by
    intro n10
    induction n10 with
    | zero =>
      intro A c v1 v2 v3 S hcc hs
      rw [q_QR_readMatches_10] at hs; cases hs
    | succ n10 ih10 =>
      have B_94 : ∀ (A : AW) (c : CW) (v1 : Int) (v3 : Int) (t0 : Int) (S : WS), (c.bc ≤ C0.bc ∧ c.bs ≤ C0.bs) ∧ aS A0 A → q_QR_readMatches_94 (q_QR_readMatches_10 n10) c v1 v3 t0 S = some (r, c9, S9) → jw X (C0.bc - c.bc) (C0.bs - c.bs) (wtL D g A c S) [(0, .ref (g 10)), (1, .int (ii v1)), (3, .int (ii v3))] 94 [.int (ii t0), .ref (g 10)] := by
        intro A c v1 v3 t0 S hcc hs
        rw [q_QR_readMatches_94] at hs
        obtain ⟨r34, S34, hc34, hs⟩ := mb2_some hs
        refine jq_cV0 ok hR m_QR_134 (r_QR_take (jx_l X) D g A c S t0 r34 S34  hc34) (sg_atk 13 rfl) rfl rfl rfl (Nat.le_of_ble_eq_true rfl) ⟨Nat.le_of_ble_eq_true rfl, Nat.le_of_ble_eq_true rfl⟩ ⟨Nat.sub_le _ _, Nat.sub_le _ _⟩ d_QR_readMatches_94 ?_
        show jw X (C0.bc - c.bc) (C0.bs - c.bs) (wtL D g A c S34) [(0, .ref (g 10)), (1, .int (ii v1)), (3, .int (ii v3))] 97 []
        refine jr_aload_n ok 0 d_QR_readMatches_97 rfl rfl ?_
        refine jr_get (v := .ref (g 9)) ok 13 f_QR_15 rfl rfl d_QR_readMatches_98 ?_
        refine jr_aload_n ok 0 d_QR_readMatches_101 rfl rfl ?_
        refine jr_get (v := .ref (g 11)) ok 13 f_QR_24 rfl rfl d_QR_readMatches_102 ?_
        obtain ⟨r35, S35, hc35, hs⟩ := mb2_some hs
        refine jq_cV1 ok hR m_QR_61 (r_Lx_at (jx_l X) D g A c S34  r35 S35  hc35) (sg_atk 14 rfl) rfl rfl rfl (Nat.le_of_ble_eq_true rfl) ⟨Nat.le_of_ble_eq_true rfl, Nat.le_of_ble_eq_true rfl⟩ ⟨Nat.sub_le _ _, Nat.sub_le _ _⟩ d_QR_readMatches_105 ?_
        show jw X (C0.bc - c.bc) (C0.bs - c.bs) (wtL D g A c S35) [(0, .ref (g 10)), (1, .int (ii v1)), (3, .int (ii v3))] 108 [.int (ii r35), .ref (g 9)]
        refine jr_iconst ok d_QR_readMatches_108 ?_
        refine jr_iadd ok d_QR_readMatches_109 ?_
        refine jr_aload_n ok 0 d_QR_readMatches_110 rfl rfl ?_
        refine jr_get (v := .ref (g 11)) ok 13 f_QR_24 rfl rfl d_QR_readMatches_111 ?_
        obtain ⟨r36, S36, hc36, hs⟩ := mb2_some hs
        refine jq_cV1 ok hR m_QR_166 (r_Lx_behind (jx_l X) D g A c S35  r36 S36  hc36) (sg_atk 14 rfl) rfl rfl rfl (Nat.le_of_ble_eq_true rfl) ⟨Nat.le_of_ble_eq_true rfl, Nat.le_of_ble_eq_true rfl⟩ ⟨Nat.sub_le _ _, Nat.sub_le _ _⟩ d_QR_readMatches_114 ?_
        show jw X (C0.bc - c.bc) (C0.bs - c.bs) (wtL D g A c S36) [(0, .ref (g 10)), (1, .int (ii v1)), (3, .int (ii v3))] 117 [.int (ii r36), .int (ii (r35 + 1)), .ref (g 9)]
        refine jr_iconst ok d_QR_readMatches_117 ?_
        refine jr_isub ok d_QR_readMatches_118 ?_
        obtain ⟨r37, e37, S37, hc37, hs⟩ := mb3_some hs
        refine jh_gV0 (Lo := fun A => wtL D g A e37 S37) ok hI hR hcc.1 m_QR_176 (r_Pg_addSlice (jx_l X) D g A c S36 (r35 + 1) (r36 - 1) r37 e37 S37  hc37) (sg_atk 11 rfl) rfl rfl rfl (Nat.le_of_ble_eq_true rfl) ⟨Nat.le_of_ble_eq_true rfl, Nat.le_of_ble_eq_true rfl⟩ d_QR_readMatches_119 (fun A37 hcb37 hst37 => ?_)
        have hcc37 : (e37.bc ≤ C0.bc ∧ e37.bs ≤ C0.bs) ∧ aS A0 A37 := ⟨hcb37, aS_tr hcc.2 hst37⟩
        show jw X (C0.bc - e37.bc) (C0.bs - e37.bs) (wtL D g A37 e37 S37) [(0, .ref (g 10)), (1, .int (ii v1)), (3, .int (ii v3))] 122 []
        refine jr_aload_n ok 0 d_QR_readMatches_122 rfl rfl ?_
        refine jr_sipush ok d_QR_readMatches_123 (by decide +kernel) ?_
        obtain ⟨r38, S38, hc38, hs⟩ := mb2_some hs
        refine jq_cV0 ok hR m_QR_134 (r_QR_take (jx_l X) D g A37 e37 S37 304 r38 S38  hc38) (sg_atk 13 rfl) rfl rfl rfl (Nat.le_of_ble_eq_true rfl) ⟨Nat.le_of_ble_eq_true rfl, Nat.le_of_ble_eq_true rfl⟩ ⟨Nat.sub_le _ _, Nat.sub_le _ _⟩ d_QR_readMatches_126 ?_
        show jw X (C0.bc - e37.bc) (C0.bs - e37.bs) (wtL D g A37 e37 S38) [(0, .ref (g 10)), (1, .int (ii v1)), (3, .int (ii v3))] 129 []
        refine jr_aload_n ok 0 d_QR_readMatches_129 rfl rfl ?_
        obtain ⟨r39, S39, hc39, hs⟩ := mb2_some hs
        refine jq_cV1 ok hR m_QR_180 (r_QR_takeComma (jx_l X) D g A37 e37 S38  r39 S39  hc39) (sg_atk 13 rfl) rfl rfl rfl (Nat.le_of_ble_eq_true rfl) ⟨Nat.le_of_ble_eq_true rfl, Nat.le_of_ble_eq_true rfl⟩ ⟨Nat.sub_le _ _, Nat.sub_le _ _⟩ d_QR_readMatches_130 ?_
        show jw X (C0.bc - e37.bc) (C0.bs - e37.bs) (wtL D g A37 e37 S39) [(0, .ref (g 10)), (1, .int (ii v1)), (3, .int (ii v3))] 133 [.int (ii r39)]
        refine jr_istore_n [(2, .int (ii r39)), (0, .ref (g 10)), (1, .int (ii v1)), (3, .int (ii v3))] ok d_QR_readMatches_133 rfl (by rw [hN]; decide) rfl ?_
        refine jr_iinc [(3, .int (ii (v3 + (-1)))), (2, .int (ii r39)), (0, .ref (g 10)), (1, .int (ii v1))] 3 ok d_QR_readMatches_134 rfl (by rw [hN]; decide) rfl ?_
        refine jr_goto 10 ok d_QR_readMatches_137 (by decide) ?_
        exact jr_lv [2, 3, 1, 0] rfl (ih10 A37 e37 v1 r39 (v3 + (-1)) S39 hcc37 hs)
      intro A c v1 v2 v3 S hcc hs
      rw [q_QR_readMatches_10] at hs
      refine jr_iload_n ok 3 d_QR_readMatches_10 rfl rfl ?_
      refine jr_wif_le 140 ok rfl d_QR_readMatches_11 (by decide) (fun c21 => ?_) (fun c21 => ?_)
      · replace hs := oq_pos c21 hs
        exact jh_vret (ψ := aS A0) (Lf := wtL D g) (bc := CW.bc) (bs := CW.bs) A ok fin hcc hs d_QR_readMatches_140
      · replace hs := oq_neg c21 hs
        refine jr_iload_n ok 2 d_QR_readMatches_14 rfl rfl ?_
        refine jr_wif_eq 140 ok rfl d_QR_readMatches_15 (by decide) (fun c22 => ?_) (fun c22 => ?_)
        · replace hs := oq_pos c22 hs
          exact jh_vret (ψ := aS A0) (Lf := wtL D g) (bc := CW.bc) (bs := CW.bs) A ok fin hcc hs d_QR_readMatches_140
        · replace hs := oq_neg c22 hs
          refine jr_aload_n ok 0 d_QR_readMatches_18 rfl rfl ?_
          refine jr_get (v := .ref (g 9)) ok 13 f_QR_15 rfl rfl d_QR_readMatches_19 ?_
          refine jr_iload_n ok 1 d_QR_readMatches_22 rfl rfl ?_
          obtain ⟨r23, S23, hc23, hs⟩ := mb2_some hs
          refine jq_cV0 ok hR m_QR_184 (r_Pg_addMatch (jx_l X) D g A c S v1 r23 S23  hc23) (sg_atk 11 rfl) rfl rfl rfl (Nat.le_of_ble_eq_true rfl) ⟨Nat.le_of_ble_eq_true rfl, Nat.le_of_ble_eq_true rfl⟩ ⟨Nat.sub_le _ _, Nat.sub_le _ _⟩ d_QR_readMatches_23 ?_
          show jw X (C0.bc - c.bc) (C0.bs - c.bs) (wtL D g A c S23) [(0, .ref (g 10)), (1, .int (ii v1)), (2, .int (ii v2)), (3, .int (ii v3))] 26 []
          refine jr_aload_n ok 0 d_QR_readMatches_26 rfl rfl ?_
          refine jr_get (v := .ref (g 9)) ok 13 f_QR_15 rfl rfl d_QR_readMatches_27 ?_
          refine jr_aload_n ok 0 d_QR_readMatches_30 rfl rfl ?_
          refine jr_get (v := .ref (g 11)) ok 13 f_QR_24 rfl rfl d_QR_readMatches_31 ?_
          obtain ⟨r24, S24, hc24, hs⟩ := mb2_some hs
          refine jq_cV1 ok hR m_QR_61 (r_Lx_at (jx_l X) D g A c S23  r24 S24  hc24) (sg_atk 14 rfl) rfl rfl rfl (Nat.le_of_ble_eq_true rfl) ⟨Nat.le_of_ble_eq_true rfl, Nat.le_of_ble_eq_true rfl⟩ ⟨Nat.sub_le _ _, Nat.sub_le _ _⟩ d_QR_readMatches_34 ?_
          show jw X (C0.bc - c.bc) (C0.bs - c.bs) (wtL D g A c S24) [(0, .ref (g 10)), (1, .int (ii v1)), (2, .int (ii v2)), (3, .int (ii v3))] 37 [.int (ii r24), .ref (g 9)]
          refine jr_aload_n ok 0 d_QR_readMatches_37 rfl rfl ?_
          refine jr_get (v := .ref (g 11)) ok 13 f_QR_24 rfl rfl d_QR_readMatches_38 ?_
          obtain ⟨r25, S25, hc25, hs⟩ := mb2_some hs
          refine jq_cV1 ok hR m_QR_166 (r_Lx_behind (jx_l X) D g A c S24  r25 S25  hc25) (sg_atk 14 rfl) rfl rfl rfl (Nat.le_of_ble_eq_true rfl) ⟨Nat.le_of_ble_eq_true rfl, Nat.le_of_ble_eq_true rfl⟩ ⟨Nat.sub_le _ _, Nat.sub_le _ _⟩ d_QR_readMatches_41 ?_
          show jw X (C0.bc - c.bc) (C0.bs - c.bs) (wtL D g A c S25) [(0, .ref (g 10)), (1, .int (ii v1)), (2, .int (ii v2)), (3, .int (ii v3))] 44 [.int (ii r25), .int (ii r24), .ref (g 9)]
          obtain ⟨r26, e26, S26, hc26, hs⟩ := mb3_some hs
          refine jh_gV0 (Lo := fun A => wtL D g A e26 S26) ok hI hR hcc.1 m_QR_176 (r_Pg_addSlice (jx_l X) D g A c S25 r24 r25 r26 e26 S26  hc26) (sg_atk 11 rfl) rfl rfl rfl (Nat.le_of_ble_eq_true rfl) ⟨Nat.le_of_ble_eq_true rfl, Nat.le_of_ble_eq_true rfl⟩ d_QR_readMatches_44 (fun A26 hcb26 hst26 => ?_)
          have hcc26 : (e26.bc ≤ C0.bc ∧ e26.bs ≤ C0.bs) ∧ aS A0 A26 := ⟨hcb26, aS_tr hcc.2 hst26⟩
          show jw X (C0.bc - e26.bc) (C0.bs - e26.bs) (wtL D g A26 e26 S26) [(0, .ref (g 10)), (1, .int (ii v1)), (2, .int (ii v2)), (3, .int (ii v3))] 47 []
          refine jr_aload_n ok 0 d_QR_readMatches_47 rfl rfl ?_
          refine jr_sipush ok d_QR_readMatches_48 (by decide +kernel) ?_
          obtain ⟨r27, S27, hc27, hs⟩ := mb2_some hs
          refine jq_cV0 ok hR m_QR_134 (r_QR_take (jx_l X) D g A26 e26 S26 303 r27 S27  hc27) (sg_atk 13 rfl) rfl rfl rfl (Nat.le_of_ble_eq_true rfl) ⟨Nat.le_of_ble_eq_true rfl, Nat.le_of_ble_eq_true rfl⟩ ⟨Nat.sub_le _ _, Nat.sub_le _ _⟩ d_QR_readMatches_51 ?_
          show jw X (C0.bc - e26.bc) (C0.bs - e26.bs) (wtL D g A26 e26 S27) [(0, .ref (g 10)), (1, .int (ii v1)), (2, .int (ii v2)), (3, .int (ii v3))] 54 []
          refine jr_aload_n ok 0 d_QR_readMatches_54 rfl rfl ?_
          refine jr_get (v := .ref (g 9)) ok 13 f_QR_15 rfl rfl d_QR_readMatches_55 ?_
          refine jr_aload_n ok 0 d_QR_readMatches_58 rfl rfl ?_
          refine jr_get (v := .ref (g 11)) ok 13 f_QR_24 rfl rfl d_QR_readMatches_59 ?_
          obtain ⟨r28, S28, hc28, hs⟩ := mb2_some hs
          refine jq_cV1 ok hR m_QR_53 (r_Lx_kind (jx_l X) D g A26 e26 S27  r28 S28  hc28) (sg_atk 14 rfl) rfl rfl rfl (Nat.le_of_ble_eq_true rfl) ⟨Nat.le_of_ble_eq_true rfl, Nat.le_of_ble_eq_true rfl⟩ ⟨Nat.sub_le _ _, Nat.sub_le _ _⟩ d_QR_readMatches_62 ?_
          show jw X (C0.bc - e26.bc) (C0.bs - e26.bs) (wtL D g A26 e26 S28) [(0, .ref (g 10)), (1, .int (ii v1)), (2, .int (ii v2)), (3, .int (ii v3))] 65 [.int (ii r28), .ref (g 9)]
          obtain ⟨r29, e29, S29, hc29, hs⟩ := mb3_some hs
          refine jh_gV0 (Lo := fun A => wtL D g A e29 S29) ok hI hR hcc26.1 m_QR_86 (r_Pg_add (jx_l X) D g A26 e26 S28 r28 r29 e29 S29  hc29) (sg_atk 11 rfl) rfl rfl rfl (Nat.le_of_ble_eq_true rfl) ⟨Nat.le_of_ble_eq_true rfl, Nat.le_of_ble_eq_true rfl⟩ d_QR_readMatches_65 (fun A29 hcb29 hst29 => ?_)
          have hcc29 : (e29.bc ≤ C0.bc ∧ e29.bs ≤ C0.bs) ∧ aS A0 A29 := ⟨hcb29, aS_tr hcc26.2 hst29⟩
          show jw X (C0.bc - e29.bc) (C0.bs - e29.bs) (wtL D g A29 e29 S29) [(0, .ref (g 10)), (1, .int (ii v1)), (2, .int (ii v2)), (3, .int (ii v3))] 68 []
          refine jr_aload_n ok 0 d_QR_readMatches_68 rfl rfl ?_
          refine jr_aload_n ok 0 d_QR_readMatches_69 rfl rfl ?_
          refine jr_get (v := .ref (g 11)) ok 13 f_QR_24 rfl rfl d_QR_readMatches_70 ?_
          obtain ⟨r30, S30, hc30, hs⟩ := mb2_some hs
          refine jq_cV1 ok hR m_QR_53 (r_Lx_kind (jx_l X) D g A29 e29 S29  r30 S30  hc30) (sg_atk 14 rfl) rfl rfl rfl (Nat.le_of_ble_eq_true rfl) ⟨Nat.le_of_ble_eq_true rfl, Nat.le_of_ble_eq_true rfl⟩ ⟨Nat.sub_le _ _, Nat.sub_le _ _⟩ d_QR_readMatches_73 ?_
          show jw X (C0.bc - e29.bc) (C0.bs - e29.bs) (wtL D g A29 e29 S30) [(0, .ref (g 10)), (1, .int (ii v1)), (2, .int (ii v2)), (3, .int (ii v3))] 76 [.int (ii r30), .ref (g 10)]
          obtain ⟨r31, hc31, hs⟩ := mb1_some hs
          refine jr_mS1 ok hR m_QR_187 (r_QR_isMatchSign (jx_l X) D r30 r31 hc31) rfl rfl (Nat.le_of_ble_eq_true rfl) ⟨Nat.le_of_ble_eq_true rfl, Nat.le_of_ble_eq_true rfl⟩ ⟨Nat.sub_le _ _, Nat.sub_le _ _⟩ d_QR_readMatches_76 ?_
          show jw X (C0.bc - e29.bc) (C0.bs - e29.bs) (wtL D g A29 e29 S30) [(0, .ref (g 10)), (1, .int (ii v1)), (2, .int (ii v2)), (3, .int (ii v3))] 79 [.int (ii r31), .ref (g 10)]
          refine jr_wif_eq 92 ok rfl d_QR_readMatches_79 (by decide) (fun c32 => ?_) (fun c32 => ?_)
          · replace hs := oq_pos c32 hs
            refine jr_bipush ok d_QR_readMatches_92 (by decide +kernel) ?_
            exact jr_lv [0, 1, 3] rfl (B_94 A29 e29 v1 v3 61 S30 hcc29 hs)
          · replace hs := oq_neg c32 hs
            refine jr_aload_n ok 0 d_QR_readMatches_82 rfl rfl ?_
            refine jr_get (v := .ref (g 11)) ok 13 f_QR_24 rfl rfl d_QR_readMatches_83 ?_
            obtain ⟨r33, S33, hc33, hs⟩ := mb2_some hs
            refine jq_cV1 ok hR m_QR_53 (r_Lx_kind (jx_l X) D g A29 e29 S30  r33 S33  hc33) (sg_atk 14 rfl) rfl rfl rfl (Nat.le_of_ble_eq_true rfl) ⟨Nat.le_of_ble_eq_true rfl, Nat.le_of_ble_eq_true rfl⟩ ⟨Nat.sub_le _ _, Nat.sub_le _ _⟩ d_QR_readMatches_86 ?_
            show jw X (C0.bc - e29.bc) (C0.bs - e29.bs) (wtL D g A29 e29 S33) [(0, .ref (g 10)), (1, .int (ii v1)), (2, .int (ii v2)), (3, .int (ii v3))] 89 [.int (ii r33), .ref (g 10)]
            refine jr_goto 94 ok d_QR_readMatches_89 (by decide) ?_
            exact jr_lv [0, 1, 3] rfl (B_94 A29 e29 v1 v3 r33 S33 hcc29 hs)
  refine jr_widen (cs' := C0.bc - C0.bc) (sl' := C0.bs - C0.bs) (Nat.zero_le _) (Nat.zero_le _) ?_
  show jw X (C0.bc - C0.bc) (C0.bs - C0.bs) (wtL D g A0 C0 S) [(0, .ref (g 10)), (1, .int (ii v1))] 0 []
  rw [s_QR_readMatches] at hs
  refine jr_iconst ok d_QR_readMatches_0 ?_
  refine jr_istore_n [(2, .int (ii 1)), (0, .ref (g 10)), (1, .int (ii v1))] ok d_QR_readMatches_1 rfl (by rw [hN]; decide) rfl ?_
  refine jr_aload_n ok 1 d_QR_readMatches_2 rfl rfl ?_
  refine jr_get (v := .ref (g 1)) ok 13 f_QR_9 rfl rfl d_QR_readMatches_3 ?_
  obtain ⟨r40, S40, hc40, hs⟩ := mb2_some hs
  refine jq_cV1 ok hR m_QR_73 (r_Tp_size (jx_l X) D g A0 C0 S  r40 S40  hc40) (sg_atk 1 rfl) rfl rfl rfl (Nat.le_of_ble_eq_true rfl) ⟨Nat.le_of_ble_eq_true rfl, Nat.le_of_ble_eq_true rfl⟩ ⟨Nat.sub_le _ _, Nat.sub_le _ _⟩ d_QR_readMatches_6 ?_
  show jw X (C0.bc - C0.bc) (C0.bs - C0.bs) (wtL D g A0 C0 S40) [(2, .int (ii 1)), (0, .ref (g 10)), (1, .int (ii v1))] 9 [.int (ii r40)]
  refine jr_istore_n [(3, .int (ii r40)), (2, .int (ii 1)), (0, .ref (g 10)), (1, .int (ii v1))] ok d_QR_readMatches_9 rfl (by rw [hN]; decide) rfl ?_
  exact jr_lv [2, 3, 1, 0] rfl (B_10 fU A0 C0 v1 1 r40 S40 hcc hs)

def s_QR_funcKind (C0 : CW) (S : WS)  : Option (Int × CW × WS) := mb3 (s_Lx_spells C0 S 0) (fun r15 e15 S15 => if w32 r15 = 0 then mb3 (s_Lx_spells e15 S15 1) (fun r17 e17 S17 => if w32 r17 = 0 then mb3 (s_Lx_spells e17 S17 2) (fun r19 e19 S19 => if w32 r19 = 0 then mb3 (s_Lx_spells e19 S19 3) (fun r21 e21 S21 => if w32 r21 = 0 then mb3 (s_Lx_spells e21 S21 4) (fun r23 e23 S23 => if w32 r23 = 0 then mb3 (s_Lx_spells e23 S23 5) (fun r25 e25 S25 => if w32 r25 = 0 then mb3 (s_Lx_spells e25 S25 6) (fun r27 e27 S27 => if w32 r27 = 0 then some (-1, e27, S27) else some (7, e27, S27)) else some (6, e25, S25)) else some (5, e23, S23)) else some (4, e21, S21)) else some (3, e19, S19)) else some (2, e17, S17)) else some (1, e15, S15))
set_option maxHeartbeats 4000000 in
set_option maxRecDepth 100000 in
theorem r_QR_funcKind (l : Launch) (D : jd_T) (g : Nat → Nat) (A0 : AW) (C0 : CW) (S : WS)  (r : Int) (c9 : CW) (S9 : WS)  (hs : s_QR_funcKind C0 S  = some (r, c9, S9)) : jgI_C l D y_QR_funcKind b_QR_funcKind 1 (some .int) { frames := 5, cells := C0.bc, slots := C0.bs, locals := 122 } [.ref (g 10)] (wtL D g A0 C0 S) (fun A : AW => (.returned (some (.int (ii r))), (c9.bc ≤ C0.bc ∧ c9.bs ≤ C0.bs) ∧ aS A0 A, wtL D g A c9 S9, C0.bc - c9.bc, C0.bs - c9.bs)) := by
  refine jgI_of rfl (Nat.le_of_ble_eq_true rfl) ?_
  intro X hl hR hN ok hI hnm fin
  subst hl
  have hcc : (C0.bc ≤ C0.bc ∧ C0.bs ≤ C0.bs) ∧ aS A0 A0 := ⟨⟨Nat.le_refl _, Nat.le_refl _⟩, fun _ _ _ => rfl⟩
  refine jr_widen (cs' := C0.bc - C0.bc) (sl' := C0.bs - C0.bs) (Nat.zero_le _) (Nat.zero_le _) ?_
  show jw X (C0.bc - C0.bc) (C0.bs - C0.bs) (wtL D g A0 C0 S) [(0, .ref (g 10))] 0 []
  rw [s_QR_funcKind] at hs
  refine jr_aload_n ok 0 d_QR_funcKind_0 rfl rfl ?_
  refine jr_get (v := .ref (g 11)) ok 13 f_QR_24 rfl rfl d_QR_funcKind_1 ?_
  refine jrI_ldc (i := 0) ok hI (by decide) rfl d_QR_funcKind_4 ?_
  obtain ⟨r15, e15, S15, hc15, hs⟩ := mb3_some hs
  refine jh_gV1 (Lo := fun A => wtL D g A e15 S15) ok hI hR hcc.1 m_QR_139 (r_Lx_spells (jx_l X) D g A0 C0 S 0 r15 e15 S15 (by decide) hc15) (sg_atk 14 rfl) rfl rfl rfl (Nat.le_of_ble_eq_true rfl) ⟨Nat.le_of_ble_eq_true rfl, Nat.le_of_ble_eq_true rfl⟩ d_QR_funcKind_6 (fun A15 hcb15 hst15 => ?_)
  have hcc15 : (e15.bc ≤ C0.bc ∧ e15.bs ≤ C0.bs) ∧ aS A0 A15 := ⟨hcb15, aS_tr hcc.2 hst15⟩
  show jw X (C0.bc - e15.bc) (C0.bs - e15.bs) (wtL D g A15 e15 S15) [(0, .ref (g 10))] 9 [.int (ii r15)]
  refine jr_wif_eq 14 ok rfl d_QR_funcKind_9 (by decide) (fun c16 => ?_) (fun c16 => ?_)
  · replace hs := oq_pos c16 hs
    refine jr_aload_n ok 0 d_QR_funcKind_14 rfl rfl ?_
    refine jr_get (v := .ref (g 11)) ok 13 f_QR_24 rfl rfl d_QR_funcKind_15 ?_
    refine jrI_ldc (i := 1) ok hI (by decide) rfl d_QR_funcKind_18 ?_
    obtain ⟨r17, e17, S17, hc17, hs⟩ := mb3_some hs
    refine jh_gV1 (Lo := fun A => wtL D g A e17 S17) ok hI hR hcc15.1 m_QR_139 (r_Lx_spells (jx_l X) D g A15 e15 S15 1 r17 e17 S17 (by decide) hc17) (sg_atk 14 rfl) rfl rfl rfl (Nat.le_of_ble_eq_true rfl) ⟨Nat.le_of_ble_eq_true rfl, Nat.le_of_ble_eq_true rfl⟩ d_QR_funcKind_20 (fun A17 hcb17 hst17 => ?_)
    have hcc17 : (e17.bc ≤ C0.bc ∧ e17.bs ≤ C0.bs) ∧ aS A0 A17 := ⟨hcb17, aS_tr hcc15.2 hst17⟩
    show jw X (C0.bc - e17.bc) (C0.bs - e17.bs) (wtL D g A17 e17 S17) [(0, .ref (g 10))] 23 [.int (ii r17)]
    refine jr_wif_eq 28 ok rfl d_QR_funcKind_23 (by decide) (fun c18 => ?_) (fun c18 => ?_)
    · replace hs := oq_pos c18 hs
      refine jr_aload_n ok 0 d_QR_funcKind_28 rfl rfl ?_
      refine jr_get (v := .ref (g 11)) ok 13 f_QR_24 rfl rfl d_QR_funcKind_29 ?_
      refine jrI_ldc (i := 2) ok hI (by decide) rfl d_QR_funcKind_32 ?_
      obtain ⟨r19, e19, S19, hc19, hs⟩ := mb3_some hs
      refine jh_gV1 (Lo := fun A => wtL D g A e19 S19) ok hI hR hcc17.1 m_QR_139 (r_Lx_spells (jx_l X) D g A17 e17 S17 2 r19 e19 S19 (by decide) hc19) (sg_atk 14 rfl) rfl rfl rfl (Nat.le_of_ble_eq_true rfl) ⟨Nat.le_of_ble_eq_true rfl, Nat.le_of_ble_eq_true rfl⟩ d_QR_funcKind_34 (fun A19 hcb19 hst19 => ?_)
      have hcc19 : (e19.bc ≤ C0.bc ∧ e19.bs ≤ C0.bs) ∧ aS A0 A19 := ⟨hcb19, aS_tr hcc17.2 hst19⟩
      show jw X (C0.bc - e19.bc) (C0.bs - e19.bs) (wtL D g A19 e19 S19) [(0, .ref (g 10))] 37 [.int (ii r19)]
      refine jr_wif_eq 42 ok rfl d_QR_funcKind_37 (by decide) (fun c20 => ?_) (fun c20 => ?_)
      · replace hs := oq_pos c20 hs
        refine jr_aload_n ok 0 d_QR_funcKind_42 rfl rfl ?_
        refine jr_get (v := .ref (g 11)) ok 13 f_QR_24 rfl rfl d_QR_funcKind_43 ?_
        refine jrI_ldc (i := 3) ok hI (by decide) rfl d_QR_funcKind_46 ?_
        obtain ⟨r21, e21, S21, hc21, hs⟩ := mb3_some hs
        refine jh_gV1 (Lo := fun A => wtL D g A e21 S21) ok hI hR hcc19.1 m_QR_139 (r_Lx_spells (jx_l X) D g A19 e19 S19 3 r21 e21 S21 (by decide) hc21) (sg_atk 14 rfl) rfl rfl rfl (Nat.le_of_ble_eq_true rfl) ⟨Nat.le_of_ble_eq_true rfl, Nat.le_of_ble_eq_true rfl⟩ d_QR_funcKind_48 (fun A21 hcb21 hst21 => ?_)
        have hcc21 : (e21.bc ≤ C0.bc ∧ e21.bs ≤ C0.bs) ∧ aS A0 A21 := ⟨hcb21, aS_tr hcc19.2 hst21⟩
        show jw X (C0.bc - e21.bc) (C0.bs - e21.bs) (wtL D g A21 e21 S21) [(0, .ref (g 10))] 51 [.int (ii r21)]
        refine jr_wif_eq 56 ok rfl d_QR_funcKind_51 (by decide) (fun c22 => ?_) (fun c22 => ?_)
        · replace hs := oq_pos c22 hs
          refine jr_aload_n ok 0 d_QR_funcKind_56 rfl rfl ?_
          refine jr_get (v := .ref (g 11)) ok 13 f_QR_24 rfl rfl d_QR_funcKind_57 ?_
          refine jrI_ldc (i := 4) ok hI (by decide) rfl d_QR_funcKind_60 ?_
          obtain ⟨r23, e23, S23, hc23, hs⟩ := mb3_some hs
          refine jh_gV1 (Lo := fun A => wtL D g A e23 S23) ok hI hR hcc21.1 m_QR_139 (r_Lx_spells (jx_l X) D g A21 e21 S21 4 r23 e23 S23 (by decide) hc23) (sg_atk 14 rfl) rfl rfl rfl (Nat.le_of_ble_eq_true rfl) ⟨Nat.le_of_ble_eq_true rfl, Nat.le_of_ble_eq_true rfl⟩ d_QR_funcKind_62 (fun A23 hcb23 hst23 => ?_)
          have hcc23 : (e23.bc ≤ C0.bc ∧ e23.bs ≤ C0.bs) ∧ aS A0 A23 := ⟨hcb23, aS_tr hcc21.2 hst23⟩
          show jw X (C0.bc - e23.bc) (C0.bs - e23.bs) (wtL D g A23 e23 S23) [(0, .ref (g 10))] 65 [.int (ii r23)]
          refine jr_wif_eq 70 ok rfl d_QR_funcKind_65 (by decide) (fun c24 => ?_) (fun c24 => ?_)
          · replace hs := oq_pos c24 hs
            refine jr_aload_n ok 0 d_QR_funcKind_70 rfl rfl ?_
            refine jr_get (v := .ref (g 11)) ok 13 f_QR_24 rfl rfl d_QR_funcKind_71 ?_
            refine jrI_ldc (i := 5) ok hI (by decide) rfl d_QR_funcKind_74 ?_
            obtain ⟨r25, e25, S25, hc25, hs⟩ := mb3_some hs
            refine jh_gV1 (Lo := fun A => wtL D g A e25 S25) ok hI hR hcc23.1 m_QR_139 (r_Lx_spells (jx_l X) D g A23 e23 S23 5 r25 e25 S25 (by decide) hc25) (sg_atk 14 rfl) rfl rfl rfl (Nat.le_of_ble_eq_true rfl) ⟨Nat.le_of_ble_eq_true rfl, Nat.le_of_ble_eq_true rfl⟩ d_QR_funcKind_76 (fun A25 hcb25 hst25 => ?_)
            have hcc25 : (e25.bc ≤ C0.bc ∧ e25.bs ≤ C0.bs) ∧ aS A0 A25 := ⟨hcb25, aS_tr hcc23.2 hst25⟩
            show jw X (C0.bc - e25.bc) (C0.bs - e25.bs) (wtL D g A25 e25 S25) [(0, .ref (g 10))] 79 [.int (ii r25)]
            refine jr_wif_eq 85 ok rfl d_QR_funcKind_79 (by decide) (fun c26 => ?_) (fun c26 => ?_)
            · replace hs := oq_pos c26 hs
              refine jr_aload_n ok 0 d_QR_funcKind_85 rfl rfl ?_
              refine jr_get (v := .ref (g 11)) ok 13 f_QR_24 rfl rfl d_QR_funcKind_86 ?_
              refine jrI_ldc (i := 6) ok hI (by decide) rfl d_QR_funcKind_89 ?_
              obtain ⟨r27, e27, S27, hc27, hs⟩ := mb3_some hs
              refine jh_gV1 (Lo := fun A => wtL D g A e27 S27) ok hI hR hcc25.1 m_QR_139 (r_Lx_spells (jx_l X) D g A25 e25 S25 6 r27 e27 S27 (by decide) hc27) (sg_atk 14 rfl) rfl rfl rfl (Nat.le_of_ble_eq_true rfl) ⟨Nat.le_of_ble_eq_true rfl, Nat.le_of_ble_eq_true rfl⟩ d_QR_funcKind_91 (fun A27 hcb27 hst27 => ?_)
              have hcc27 : (e27.bc ≤ C0.bc ∧ e27.bs ≤ C0.bs) ∧ aS A0 A27 := ⟨hcb27, aS_tr hcc25.2 hst27⟩
              show jw X (C0.bc - e27.bc) (C0.bs - e27.bs) (wtL D g A27 e27 S27) [(0, .ref (g 10))] 94 [.int (ii r27)]
              refine jr_wif_eq 102 ok rfl d_QR_funcKind_94 (by decide) (fun c28 => ?_) (fun c28 => ?_)
              · replace hs := oq_pos c28 hs
                refine jr_iconst ok d_QR_funcKind_102 ?_
                exact jh_iret (ψ := aS A0) (Lf := wtL D g) (bc := CW.bc) (bs := CW.bs) A27 ok fin hcc27 hs d_QR_funcKind_103
              · replace hs := oq_neg c28 hs
                refine jr_bipush ok d_QR_funcKind_97 (by decide +kernel) ?_
                refine jr_goto 103 ok d_QR_funcKind_99 (by decide) ?_
                exact jh_iret (ψ := aS A0) (Lf := wtL D g) (bc := CW.bc) (bs := CW.bs) A27 ok fin hcc27 hs d_QR_funcKind_103
            · replace hs := oq_neg c26 hs
              refine jr_bipush ok d_QR_funcKind_82 (by decide +kernel) ?_
              exact jh_iret (ψ := aS A0) (Lf := wtL D g) (bc := CW.bc) (bs := CW.bs) A25 ok fin hcc25 hs d_QR_funcKind_84
          · replace hs := oq_neg c24 hs
            refine jr_iconst ok d_QR_funcKind_68 ?_
            exact jh_iret (ψ := aS A0) (Lf := wtL D g) (bc := CW.bc) (bs := CW.bs) A23 ok fin hcc23 hs d_QR_funcKind_69
        · replace hs := oq_neg c22 hs
          refine jr_iconst ok d_QR_funcKind_54 ?_
          exact jh_iret (ψ := aS A0) (Lf := wtL D g) (bc := CW.bc) (bs := CW.bs) A21 ok fin hcc21 hs d_QR_funcKind_55
      · replace hs := oq_neg c20 hs
        refine jr_iconst ok d_QR_funcKind_40 ?_
        exact jh_iret (ψ := aS A0) (Lf := wtL D g) (bc := CW.bc) (bs := CW.bs) A19 ok fin hcc19 hs d_QR_funcKind_41
    · replace hs := oq_neg c18 hs
      refine jr_iconst ok d_QR_funcKind_26 ?_
      exact jh_iret (ψ := aS A0) (Lf := wtL D g) (bc := CW.bc) (bs := CW.bs) A17 ok fin hcc17 hs d_QR_funcKind_27
  · replace hs := oq_neg c16 hs
    refine jr_iconst ok d_QR_funcKind_12 ?_
    exact jh_iret (ψ := aS A0) (Lf := wtL D g) (bc := CW.bc) (bs := CW.bs) A15 ok fin hcc15 hs d_QR_funcKind_13

def q_QR_readFunc_81 (c : CW) (v2 : Int) (S : WS) : Option (Int × CW × WS) := mb2 (s_QR_take c S 125) (fun r23 S23 => mb2 (s_QR_take c S23 41) (fun r24 S24 => mb2 (s_Pg_namesOf c S24 v2) (fun r25 S25 => if w32 r25 ≤ 0 then some (-1, c, S25) else some (v2, c, S25))))

def q_QR_readFunc_52 (c : CW) (v2 : Int) (S : WS) : Option (Int × CW × WS) := mb2 (s_QR_take c S 40) (fun r18 S18 => mb2 (s_QR_take c S18 123) (fun r19 S19 => mb2 (s_Lx_kind c S19 ) (fun r20 S20 => if w32 r20 = 125 then q_QR_readFunc_81 c v2 S20 else mb3 (s_QR_readMatches c S20 v2) (fun r22 e22 S22 => q_QR_readFunc_81 e22 v2 S22))))

def s_QR_readFunc (C0 : CW) (S : WS) (v1 : Int) : Option (Int × CW × WS) := mb3 (s_Pg_addFunc C0 S v1) (fun r27 e27 S27 => mb2 (s_Lx_advance e27 S27 ) (fun r28 S28 => mb3 (s_Lx_spells e27 S28 7) (fun r29 e29 S29 => if w32 r29 = 0 then q_QR_readFunc_52 e29 r27 S29 else mb2 (s_Lx_advance e29 S29 ) (fun r31 S31 => mb2 (s_QR_take e29 S31 40) (fun r32 S32 => mb3 (s_QR_readNames e29 S32 r27) (fun r33 e33 S33 => mb2 (s_QR_take e33 S33 41) (fun r34 S34 => q_QR_readFunc_52 e33 r27 S34)))))))
set_option maxHeartbeats 4000000 in
set_option maxRecDepth 100000 in
theorem r_QR_readFunc (l : Launch) (D : jd_T) (g : Nat → Nat) (A0 : AW) (C0 : CW) (S : WS) (v1 : Int) (r : Int) (c9 : CW) (S9 : WS)  (hs : s_QR_readFunc C0 S v1 = some (r, c9, S9)) : jgI_C l D y_QR_readFunc b_QR_readFunc 3 (some .int) { frames := 5, cells := C0.bc, slots := C0.bs, locals := 130 } [.ref (g 10), .int (ii v1)] (wtL D g A0 C0 S) (fun A : AW => (.returned (some (.int (ii r))), (c9.bc ≤ C0.bc ∧ c9.bs ≤ C0.bs) ∧ aS A0 A, wtL D g A c9 S9, C0.bc - c9.bc, C0.bs - c9.bs)) := by
  refine jgI_of rfl (Nat.le_of_ble_eq_true rfl) ?_
  intro X hl hR hN ok hI hnm fin
  subst hl
  have hcc : (C0.bc ≤ C0.bc ∧ C0.bs ≤ C0.bs) ∧ aS A0 A0 := ⟨⟨Nat.le_refl _, Nat.le_refl _⟩, fun _ _ _ => rfl⟩
  have B_81 : ∀ (A : AW) (c : CW) (v2 : Int) (S : WS), (c.bc ≤ C0.bc ∧ c.bs ≤ C0.bs) ∧ aS A0 A → q_QR_readFunc_81 c v2 S = some (r, c9, S9) → jw X (C0.bc - c.bc) (C0.bs - c.bs) (wtL D g A c S) [(0, .ref (g 10)), (2, .int (ii v2))] 81 [] := by
    intro A c v2 S hcc hs
    rw [q_QR_readFunc_81] at hs
    refine jr_aload_n ok 0 d_QR_readFunc_81 rfl rfl ?_
    refine jr_bipush ok d_QR_readFunc_82 (by decide +kernel) ?_
    obtain ⟨r23, S23, hc23, hs⟩ := mb2_some hs
    refine jq_cV0 ok hR m_QR_134 (r_QR_take (jx_l X) D g A c S 125 r23 S23  hc23) (sg_atk 13 rfl) rfl rfl rfl (Nat.le_of_ble_eq_true rfl) ⟨Nat.le_of_ble_eq_true rfl, Nat.le_of_ble_eq_true rfl⟩ ⟨Nat.sub_le _ _, Nat.sub_le _ _⟩ d_QR_readFunc_84 ?_
    show jw X (C0.bc - c.bc) (C0.bs - c.bs) (wtL D g A c S23) [(0, .ref (g 10)), (2, .int (ii v2))] 87 []
    refine jr_aload_n ok 0 d_QR_readFunc_87 rfl rfl ?_
    refine jr_bipush ok d_QR_readFunc_88 (by decide +kernel) ?_
    obtain ⟨r24, S24, hc24, hs⟩ := mb2_some hs
    refine jq_cV0 ok hR m_QR_134 (r_QR_take (jx_l X) D g A c S23 41 r24 S24  hc24) (sg_atk 13 rfl) rfl rfl rfl (Nat.le_of_ble_eq_true rfl) ⟨Nat.le_of_ble_eq_true rfl, Nat.le_of_ble_eq_true rfl⟩ ⟨Nat.sub_le _ _, Nat.sub_le _ _⟩ d_QR_readFunc_90 ?_
    show jw X (C0.bc - c.bc) (C0.bs - c.bs) (wtL D g A c S24) [(0, .ref (g 10)), (2, .int (ii v2))] 93 []
    refine jr_aload_n ok 0 d_QR_readFunc_93 rfl rfl ?_
    refine jr_get (v := .ref (g 9)) ok 13 f_QR_15 rfl rfl d_QR_readFunc_94 ?_
    refine jr_iload_n ok 1 d_QR_readFunc_97 rfl rfl ?_
    obtain ⟨r25, S25, hc25, hs⟩ := mb2_some hs
    refine jq_cV1 ok hR m_QR_99 (r_Pg_namesOf (jx_l X) D g A c S24 v2 r25 S25  hc25) (sg_atk 11 rfl) rfl rfl rfl (Nat.le_of_ble_eq_true rfl) ⟨Nat.le_of_ble_eq_true rfl, Nat.le_of_ble_eq_true rfl⟩ ⟨Nat.sub_le _ _, Nat.sub_le _ _⟩ d_QR_readFunc_98 ?_
    show jw X (C0.bc - c.bc) (C0.bs - c.bs) (wtL D g A c S25) [(0, .ref (g 10)), (2, .int (ii v2))] 101 [.int (ii r25)]
    refine jr_wif_le 108 ok rfl d_QR_readFunc_101 (by decide) (fun c26 => ?_) (fun c26 => ?_)
    · replace hs := oq_pos c26 hs
      refine jr_iconst ok d_QR_readFunc_108 ?_
      exact jh_iret (ψ := aS A0) (Lf := wtL D g) (bc := CW.bc) (bs := CW.bs) A ok fin hcc hs d_QR_readFunc_109
    · replace hs := oq_neg c26 hs
      refine jr_iload_n ok 1 d_QR_readFunc_104 rfl rfl ?_
      refine jr_goto 109 ok d_QR_readFunc_105 (by decide) ?_
      exact jh_iret (ψ := aS A0) (Lf := wtL D g) (bc := CW.bc) (bs := CW.bs) A ok fin hcc hs d_QR_readFunc_109
  have B_52 : ∀ (A : AW) (c : CW) (v2 : Int) (S : WS), (c.bc ≤ C0.bc ∧ c.bs ≤ C0.bs) ∧ aS A0 A → q_QR_readFunc_52 c v2 S = some (r, c9, S9) → jw X (C0.bc - c.bc) (C0.bs - c.bs) (wtL D g A c S) [(0, .ref (g 10)), (2, .int (ii v2))] 52 [] := by
    intro A c v2 S hcc hs
    rw [q_QR_readFunc_52] at hs
    refine jr_aload_n ok 0 d_QR_readFunc_52 rfl rfl ?_
    refine jr_bipush ok d_QR_readFunc_53 (by decide +kernel) ?_
    obtain ⟨r18, S18, hc18, hs⟩ := mb2_some hs
    refine jq_cV0 ok hR m_QR_134 (r_QR_take (jx_l X) D g A c S 40 r18 S18  hc18) (sg_atk 13 rfl) rfl rfl rfl (Nat.le_of_ble_eq_true rfl) ⟨Nat.le_of_ble_eq_true rfl, Nat.le_of_ble_eq_true rfl⟩ ⟨Nat.sub_le _ _, Nat.sub_le _ _⟩ d_QR_readFunc_55 ?_
    show jw X (C0.bc - c.bc) (C0.bs - c.bs) (wtL D g A c S18) [(0, .ref (g 10)), (2, .int (ii v2))] 58 []
    refine jr_aload_n ok 0 d_QR_readFunc_58 rfl rfl ?_
    refine jr_bipush ok d_QR_readFunc_59 (by decide +kernel) ?_
    obtain ⟨r19, S19, hc19, hs⟩ := mb2_some hs
    refine jq_cV0 ok hR m_QR_134 (r_QR_take (jx_l X) D g A c S18 123 r19 S19  hc19) (sg_atk 13 rfl) rfl rfl rfl (Nat.le_of_ble_eq_true rfl) ⟨Nat.le_of_ble_eq_true rfl, Nat.le_of_ble_eq_true rfl⟩ ⟨Nat.sub_le _ _, Nat.sub_le _ _⟩ d_QR_readFunc_61 ?_
    show jw X (C0.bc - c.bc) (C0.bs - c.bs) (wtL D g A c S19) [(0, .ref (g 10)), (2, .int (ii v2))] 64 []
    refine jr_aload_n ok 0 d_QR_readFunc_64 rfl rfl ?_
    refine jr_get (v := .ref (g 11)) ok 13 f_QR_24 rfl rfl d_QR_readFunc_65 ?_
    obtain ⟨r20, S20, hc20, hs⟩ := mb2_some hs
    refine jq_cV1 ok hR m_QR_53 (r_Lx_kind (jx_l X) D g A c S19  r20 S20  hc20) (sg_atk 14 rfl) rfl rfl rfl (Nat.le_of_ble_eq_true rfl) ⟨Nat.le_of_ble_eq_true rfl, Nat.le_of_ble_eq_true rfl⟩ ⟨Nat.sub_le _ _, Nat.sub_le _ _⟩ d_QR_readFunc_68 ?_
    show jw X (C0.bc - c.bc) (C0.bs - c.bs) (wtL D g A c S20) [(0, .ref (g 10)), (2, .int (ii v2))] 71 [.int (ii r20)]
    refine jr_bipush ok d_QR_readFunc_71 (by decide +kernel) ?_
    refine jr_wicmp_eq 81 ok rfl (show w32 125 = 125 by decide) d_QR_readFunc_73 (by decide) (fun c21 => ?_) (fun c21 => ?_)
    · replace hs := oq_pos c21 hs
      exact jr_lv [0, 1] rfl (B_81 A c v2 S20 hcc hs)
    · replace hs := oq_neg c21 hs
      refine jr_aload_n ok 0 d_QR_readFunc_76 rfl rfl ?_
      refine jr_iload_n ok 1 d_QR_readFunc_77 rfl rfl ?_
      obtain ⟨r22, e22, S22, hc22, hs⟩ := mb3_some hs
      refine jh_gV0 (Lo := fun A => wtL D g A e22 S22) ok hI hR hcc.1 m_QR_163 (r_QR_readMatches (jx_l X) D g A c S20 v2 r22 e22 S22  hc22) (sg_atk 13 rfl) rfl rfl rfl (Nat.le_of_ble_eq_true rfl) ⟨Nat.le_of_ble_eq_true rfl, Nat.le_of_ble_eq_true rfl⟩ d_QR_readFunc_78 (fun A22 hcb22 hst22 => ?_)
      have hcc22 : (e22.bc ≤ C0.bc ∧ e22.bs ≤ C0.bs) ∧ aS A0 A22 := ⟨hcb22, aS_tr hcc.2 hst22⟩
      show jw X (C0.bc - e22.bc) (C0.bs - e22.bs) (wtL D g A22 e22 S22) [(0, .ref (g 10)), (2, .int (ii v2))] 81 []
      exact jr_lv [0, 1] rfl (B_81 A22 e22 v2 S22 hcc22 hs)
  refine jr_widen (cs' := C0.bc - C0.bc) (sl' := C0.bs - C0.bs) (Nat.zero_le _) (Nat.zero_le _) ?_
  show jw X (C0.bc - C0.bc) (C0.bs - C0.bs) (wtL D g A0 C0 S) [(0, .ref (g 10)), (1, .int (ii v1))] 0 []
  rw [s_QR_readFunc] at hs
  refine jr_aload_n ok 0 d_QR_readFunc_0 rfl rfl ?_
  refine jr_get (v := .ref (g 9)) ok 13 f_QR_15 rfl rfl d_QR_readFunc_1 ?_
  refine jr_iload_n ok 1 d_QR_readFunc_4 rfl rfl ?_
  obtain ⟨r27, e27, S27, hc27, hs⟩ := mb3_some hs
  refine jh_gV1 (Lo := fun A => wtL D g A e27 S27) ok hI hR hcc.1 m_QR_155 (r_Pg_addFunc (jx_l X) D g A0 C0 S v1 r27 e27 S27  hc27) (sg_atk 11 rfl) rfl rfl rfl (Nat.le_of_ble_eq_true rfl) ⟨Nat.le_of_ble_eq_true rfl, Nat.le_of_ble_eq_true rfl⟩ d_QR_readFunc_5 (fun A27 hcb27 hst27 => ?_)
  have hcc27 : (e27.bc ≤ C0.bc ∧ e27.bs ≤ C0.bs) ∧ aS A0 A27 := ⟨hcb27, aS_tr hcc.2 hst27⟩
  show jw X (C0.bc - e27.bc) (C0.bs - e27.bs) (wtL D g A27 e27 S27) [(0, .ref (g 10)), (1, .int (ii v1))] 8 [.int (ii r27)]
  refine jr_istore_n [(2, .int (ii r27)), (0, .ref (g 10)), (1, .int (ii v1))] ok d_QR_readFunc_8 rfl (by rw [hN]; decide) rfl ?_
  refine jr_aload_n ok 1 d_QR_readFunc_9 rfl rfl ?_
  refine jr_get (v := .ref (g 11)) ok 13 f_QR_24 rfl rfl d_QR_readFunc_10 ?_
  obtain ⟨r28, S28, hc28, hs⟩ := mb2_some hs
  refine jq_cV0 ok hR m_QR_67 (r_Lx_advance (jx_l X) D g A27 e27 S27  r28 S28  hc28) (sg_atk 14 rfl) rfl rfl rfl (Nat.le_of_ble_eq_true rfl) ⟨Nat.le_of_ble_eq_true rfl, Nat.le_of_ble_eq_true rfl⟩ ⟨Nat.sub_le _ _, Nat.sub_le _ _⟩ d_QR_readFunc_13 ?_
  show jw X (C0.bc - e27.bc) (C0.bs - e27.bs) (wtL D g A27 e27 S28) [(2, .int (ii r27)), (0, .ref (g 10)), (1, .int (ii v1))] 16 []
  refine jr_aload_n ok 1 d_QR_readFunc_16 rfl rfl ?_
  refine jr_get (v := .ref (g 11)) ok 13 f_QR_24 rfl rfl d_QR_readFunc_17 ?_
  refine jrI_ldc (i := 7) ok hI (by decide) rfl d_QR_readFunc_20 ?_
  obtain ⟨r29, e29, S29, hc29, hs⟩ := mb3_some hs
  refine jh_gV1 (Lo := fun A => wtL D g A e29 S29) ok hI hR hcc27.1 m_QR_139 (r_Lx_spells (jx_l X) D g A27 e27 S28 7 r29 e29 S29 (by decide) hc29) (sg_atk 14 rfl) rfl rfl rfl (Nat.le_of_ble_eq_true rfl) ⟨Nat.le_of_ble_eq_true rfl, Nat.le_of_ble_eq_true rfl⟩ d_QR_readFunc_22 (fun A29 hcb29 hst29 => ?_)
  have hcc29 : (e29.bc ≤ C0.bc ∧ e29.bs ≤ C0.bs) ∧ aS A0 A29 := ⟨hcb29, aS_tr hcc27.2 hst29⟩
  show jw X (C0.bc - e29.bc) (C0.bs - e29.bs) (wtL D g A29 e29 S29) [(2, .int (ii r27)), (0, .ref (g 10)), (1, .int (ii v1))] 25 [.int (ii r29)]
  refine jr_wif_eq 52 ok rfl d_QR_readFunc_25 (by decide) (fun c30 => ?_) (fun c30 => ?_)
  · replace hs := oq_pos c30 hs
    exact jr_lv [1, 0] rfl (B_52 A29 e29 r27 S29 hcc29 hs)
  · replace hs := oq_neg c30 hs
    refine jr_aload_n ok 1 d_QR_readFunc_28 rfl rfl ?_
    refine jr_get (v := .ref (g 11)) ok 13 f_QR_24 rfl rfl d_QR_readFunc_29 ?_
    obtain ⟨r31, S31, hc31, hs⟩ := mb2_some hs
    refine jq_cV0 ok hR m_QR_67 (r_Lx_advance (jx_l X) D g A29 e29 S29  r31 S31  hc31) (sg_atk 14 rfl) rfl rfl rfl (Nat.le_of_ble_eq_true rfl) ⟨Nat.le_of_ble_eq_true rfl, Nat.le_of_ble_eq_true rfl⟩ ⟨Nat.sub_le _ _, Nat.sub_le _ _⟩ d_QR_readFunc_32 ?_
    show jw X (C0.bc - e29.bc) (C0.bs - e29.bs) (wtL D g A29 e29 S31) [(2, .int (ii r27)), (0, .ref (g 10)), (1, .int (ii v1))] 35 []
    refine jr_aload_n ok 1 d_QR_readFunc_35 rfl rfl ?_
    refine jr_bipush ok d_QR_readFunc_36 (by decide +kernel) ?_
    obtain ⟨r32, S32, hc32, hs⟩ := mb2_some hs
    refine jq_cV0 ok hR m_QR_134 (r_QR_take (jx_l X) D g A29 e29 S31 40 r32 S32  hc32) (sg_atk 13 rfl) rfl rfl rfl (Nat.le_of_ble_eq_true rfl) ⟨Nat.le_of_ble_eq_true rfl, Nat.le_of_ble_eq_true rfl⟩ ⟨Nat.sub_le _ _, Nat.sub_le _ _⟩ d_QR_readFunc_38 ?_
    show jw X (C0.bc - e29.bc) (C0.bs - e29.bs) (wtL D g A29 e29 S32) [(2, .int (ii r27)), (0, .ref (g 10)), (1, .int (ii v1))] 41 []
    refine jr_aload_n ok 1 d_QR_readFunc_41 rfl rfl ?_
    refine jr_iload_n ok 0 d_QR_readFunc_42 rfl rfl ?_
    obtain ⟨r33, e33, S33, hc33, hs⟩ := mb3_some hs
    refine jh_gV0 (Lo := fun A => wtL D g A e33 S33) ok hI hR hcc29.1 m_QR_160 (r_QR_readNames (jx_l X) D g A29 e29 S32 r27 r33 e33 S33  hc33) (sg_atk 13 rfl) rfl rfl rfl (Nat.le_of_ble_eq_true rfl) ⟨Nat.le_of_ble_eq_true rfl, Nat.le_of_ble_eq_true rfl⟩ d_QR_readFunc_43 (fun A33 hcb33 hst33 => ?_)
    have hcc33 : (e33.bc ≤ C0.bc ∧ e33.bs ≤ C0.bs) ∧ aS A0 A33 := ⟨hcb33, aS_tr hcc29.2 hst33⟩
    show jw X (C0.bc - e33.bc) (C0.bs - e33.bs) (wtL D g A33 e33 S33) [(2, .int (ii r27)), (0, .ref (g 10)), (1, .int (ii v1))] 46 []
    refine jr_aload_n ok 1 d_QR_readFunc_46 rfl rfl ?_
    refine jr_bipush ok d_QR_readFunc_47 (by decide +kernel) ?_
    obtain ⟨r34, S34, hc34, hs⟩ := mb2_some hs
    refine jq_cV0 ok hR m_QR_134 (r_QR_take (jx_l X) D g A33 e33 S33 41 r34 S34  hc34) (sg_atk 13 rfl) rfl rfl rfl (Nat.le_of_ble_eq_true rfl) ⟨Nat.le_of_ble_eq_true rfl, Nat.le_of_ble_eq_true rfl⟩ ⟨Nat.sub_le _ _, Nat.sub_le _ _⟩ d_QR_readFunc_49 ?_
    show jw X (C0.bc - e33.bc) (C0.bs - e33.bs) (wtL D g A33 e33 S34) [(2, .int (ii r27)), (0, .ref (g 10)), (1, .int (ii v1))] 52 []
    exact jr_lv [1, 0] rfl (B_52 A33 e33 r27 S34 hcc33 hs)

def s_QR_readOpened (oS oF : CW → WS → Int → Option (Int × CW × WS)) (C0 : CW) (S : WS) (v1 : Int) (v2 : Int) : Option (Int × CW × WS) := if w32 v2 < 8 then mb2 (s_Lx_advance C0 S ) (fun r10 S10 => if w32 v1 = 40 then mb3 (oS C0 S10 (v2 + 1)) (fun r14 e14 S14 => mb2 (s_QR_take e14 S14 41) (fun r15 S15 => some (r14, e14, S15))) else mb3 (oF C0 S10 (v2 + 1)) (fun r12 e12 S12 => mb3 (s_Pg_add e12 S12 311) (fun r13 e13 S13 => some (r12, e13, S13)))) else mb2 (s_QR_refuse C0 S 3) (fun r16 S16 => some (-1, C0, S16))
set_option maxHeartbeats 4000000 in
set_option maxRecDepth 100000 in
theorem r_QR_readOpened (l : Launch) (oS oF : CW → WS → Int → Option (Int × CW × WS)) (fr lo : Nat) (hoS : jO l y_QR_readSum b_QR_readSum 6 fr lo oS) (hoF : jO l y_QR_readFactor b_QR_readFactor 4 fr lo oF) (D : jd_T) (g : Nat → Nat) (A0 : AW) (C0 : CW) (S : WS) (v1 : Int) (v2 : Int) (r : Int) (c9 : CW) (S9 : WS)  (hs : s_QR_readOpened oS oF C0 S v1 v2 = some (r, c9, S9)) : jgI_C l D y_QR_readOpened b_QR_readOpened 4 (some .int) { frames := fr + 4, cells := C0.bc, slots := C0.bs, locals := lo + 86 } [.ref (g 10), .int (ii v1), .int (ii v2)] (wtL D g A0 C0 S) (fun A : AW => (.returned (some (.int (ii r))), (c9.bc ≤ C0.bc ∧ c9.bs ≤ C0.bs) ∧ aS A0 A, wtL D g A c9 S9, C0.bc - c9.bc, C0.bs - c9.bs)) := by
  refine jgI_of rfl (Nat.le_of_ble_eq_true rfl) ?_
  intro X hl hR hN ok hI hnm fin
  subst hl
  have hcc : (C0.bc ≤ C0.bc ∧ C0.bs ≤ C0.bs) ∧ aS A0 A0 := ⟨⟨Nat.le_refl _, Nat.le_refl _⟩, fun _ _ _ => rfl⟩
  refine jr_widen (cs' := C0.bc - C0.bc) (sl' := C0.bs - C0.bs) (Nat.zero_le _) (Nat.zero_le _) ?_
  show jw X (C0.bc - C0.bc) (C0.bs - C0.bs) (wtL D g A0 C0 S) [(0, .ref (g 10)), (1, .int (ii v1)), (2, .int (ii v2))] 0 []
  rw [s_QR_readOpened] at hs
  refine jr_iload_n ok 2 d_QR_readOpened_0 rfl rfl ?_
  refine jr_bipush ok d_QR_readOpened_1 (by decide +kernel) ?_
  refine jr_wicmp_lt 13 ok rfl (show w32 8 = 8 by decide) d_QR_readOpened_3 (by decide) (fun c9 => ?_) (fun c9 => ?_)
  · replace hs := oq_pos c9 hs
    refine jr_aload_n ok 0 d_QR_readOpened_13 rfl rfl ?_
    refine jr_get (v := .ref (g 11)) ok 13 f_QR_24 rfl rfl d_QR_readOpened_14 ?_
    obtain ⟨r10, S10, hc10, hs⟩ := mb2_some hs
    refine jq_cV0 ok hR m_QR_67 (r_Lx_advance (jx_l X) D g A0 C0 S  r10 S10  hc10) (sg_atk 14 rfl) rfl rfl rfl (Nat.le_of_ble_eq_true rfl) ⟨by first | omega | (dsimp only; omega), by first | omega | (dsimp only; omega)⟩ ⟨Nat.sub_le _ _, Nat.sub_le _ _⟩ d_QR_readOpened_17 ?_
    show jw X (C0.bc - C0.bc) (C0.bs - C0.bs) (wtL D g A0 C0 S10) [(0, .ref (g 10)), (1, .int (ii v1)), (2, .int (ii v2))] 20 []
    refine jr_iload_n ok 1 d_QR_readOpened_20 rfl rfl ?_
    refine jr_bipush ok d_QR_readOpened_21 (by decide +kernel) ?_
    refine jr_wicmp_ne 43 ok rfl (show w32 40 = 40 by decide) d_QR_readOpened_23 (by decide) (fun c11 => ?_) (fun c11 => ?_)
    · replace hs := oq_neg c11 hs
      refine jr_aload_n ok 0 d_QR_readOpened_43 rfl rfl ?_
      refine jr_iload_n ok 2 d_QR_readOpened_44 rfl rfl ?_
      refine jr_iconst ok d_QR_readOpened_45 ?_
      refine jr_iadd ok d_QR_readOpened_46 ?_
      obtain ⟨r12, e12, S12, hc12, hs⟩ := mb3_some hs
      refine jh_gV1 (Lo := fun A => wtL D g A e12 S12) ok hI hR hcc.1 m_QR_89 (hoF D g A0 C0 S10 (v2 + 1) r12 e12 S12  hc12) (sg_atk 13 rfl) rfl rfl rfl (Nat.le_of_ble_eq_true rfl) ⟨by first | omega | (dsimp only; omega), by first | omega | (dsimp only; omega)⟩ d_QR_readOpened_47 (fun A12 hcb12 hst12 => ?_)
      have hcc12 : (e12.bc ≤ C0.bc ∧ e12.bs ≤ C0.bs) ∧ aS A0 A12 := ⟨hcb12, aS_tr hcc.2 hst12⟩
      show jw X (C0.bc - e12.bc) (C0.bs - e12.bs) (wtL D g A12 e12 S12) [(0, .ref (g 10)), (1, .int (ii v1)), (2, .int (ii v2))] 50 [.int (ii r12)]
      refine jr_istore_n [(3, .int (ii r12)), (0, .ref (g 10)), (1, .int (ii v1)), (2, .int (ii v2))] ok d_QR_readOpened_50 rfl (by rw [hN]; decide) rfl ?_
      refine jr_aload_n ok 1 d_QR_readOpened_51 rfl rfl ?_
      refine jr_get (v := .ref (g 9)) ok 13 f_QR_15 rfl rfl d_QR_readOpened_52 ?_
      refine jr_sipush ok d_QR_readOpened_55 (by decide +kernel) ?_
      obtain ⟨r13, e13, S13, hc13, hs⟩ := mb3_some hs
      refine jh_gV0 (Lo := fun A => wtL D g A e13 S13) ok hI hR hcc12.1 m_QR_86 (r_Pg_add (jx_l X) D g A12 e12 S12 311 r13 e13 S13  hc13) (sg_atk 11 rfl) rfl rfl rfl (Nat.le_of_ble_eq_true rfl) ⟨by first | omega | (dsimp only; omega), by first | omega | (dsimp only; omega)⟩ d_QR_readOpened_58 (fun A13 hcb13 hst13 => ?_)
      have hcc13 : (e13.bc ≤ C0.bc ∧ e13.bs ≤ C0.bs) ∧ aS A0 A13 := ⟨hcb13, aS_tr hcc12.2 hst13⟩
      show jw X (C0.bc - e13.bc) (C0.bs - e13.bs) (wtL D g A13 e13 S13) [(3, .int (ii r12)), (0, .ref (g 10)), (1, .int (ii v1)), (2, .int (ii v2))] 61 []
      refine jr_iload_n ok 0 d_QR_readOpened_61 rfl rfl ?_
      exact jh_iret (ψ := aS A0) (Lf := wtL D g) (bc := CW.bc) (bs := CW.bs) A13 ok fin hcc13 hs d_QR_readOpened_62
    · replace hs := oq_pos c11 hs
      refine jr_aload_n ok 0 d_QR_readOpened_26 rfl rfl ?_
      refine jr_iload_n ok 2 d_QR_readOpened_27 rfl rfl ?_
      refine jr_iconst ok d_QR_readOpened_28 ?_
      refine jr_iadd ok d_QR_readOpened_29 ?_
      obtain ⟨r14, e14, S14, hc14, hs⟩ := mb3_some hs
      refine jh_gV1 (Lo := fun A => wtL D g A e14 S14) ok hI hR hcc.1 m_QR_49 (hoS D g A0 C0 S10 (v2 + 1) r14 e14 S14  hc14) (sg_atk 13 rfl) rfl rfl rfl (Nat.le_of_ble_eq_true rfl) ⟨by first | omega | (dsimp only; omega), by first | omega | (dsimp only; omega)⟩ d_QR_readOpened_30 (fun A14 hcb14 hst14 => ?_)
      have hcc14 : (e14.bc ≤ C0.bc ∧ e14.bs ≤ C0.bs) ∧ aS A0 A14 := ⟨hcb14, aS_tr hcc.2 hst14⟩
      show jw X (C0.bc - e14.bc) (C0.bs - e14.bs) (wtL D g A14 e14 S14) [(0, .ref (g 10)), (1, .int (ii v1)), (2, .int (ii v2))] 33 [.int (ii r14)]
      refine jr_istore_n [(3, .int (ii r14)), (0, .ref (g 10)), (1, .int (ii v1)), (2, .int (ii v2))] ok d_QR_readOpened_33 rfl (by rw [hN]; decide) rfl ?_
      refine jr_aload_n ok 1 d_QR_readOpened_34 rfl rfl ?_
      refine jr_bipush ok d_QR_readOpened_35 (by decide +kernel) ?_
      obtain ⟨r15, S15, hc15, hs⟩ := mb2_some hs
      refine jq_cV0 ok hR m_QR_134 (r_QR_take (jx_l X) D g A14 e14 S14 41 r15 S15  hc15) (sg_atk 13 rfl) rfl rfl rfl (Nat.le_of_ble_eq_true rfl) ⟨by first | omega | (dsimp only; omega), by first | omega | (dsimp only; omega)⟩ ⟨Nat.sub_le _ _, Nat.sub_le _ _⟩ d_QR_readOpened_37 ?_
      show jw X (C0.bc - e14.bc) (C0.bs - e14.bs) (wtL D g A14 e14 S15) [(3, .int (ii r14)), (0, .ref (g 10)), (1, .int (ii v1)), (2, .int (ii v2))] 40 []
      refine jr_goto 61 ok d_QR_readOpened_40 (by decide) ?_
      refine jr_iload_n ok 0 d_QR_readOpened_61 rfl rfl ?_
      exact jh_iret (ψ := aS A0) (Lf := wtL D g) (bc := CW.bc) (bs := CW.bs) A14 ok fin hcc14 hs d_QR_readOpened_62
  · replace hs := oq_neg c9 hs
    refine jr_aload_n ok 0 d_QR_readOpened_6 rfl rfl ?_
    refine jr_iconst ok d_QR_readOpened_7 ?_
    obtain ⟨r16, S16, hc16, hs⟩ := mb2_some hs
    refine jq_cV0 ok hR m_QR_57 (r_QR_refuse (jx_l X) D g A0 C0 S 3 r16 S16  hc16) (sg_atk 13 rfl) rfl rfl rfl (Nat.le_of_ble_eq_true rfl) ⟨by first | omega | (dsimp only; omega), by first | omega | (dsimp only; omega)⟩ ⟨Nat.sub_le _ _, Nat.sub_le _ _⟩ d_QR_readOpened_8 ?_
    show jw X (C0.bc - C0.bc) (C0.bs - C0.bs) (wtL D g A0 C0 S16) [(0, .ref (g 10)), (1, .int (ii v1)), (2, .int (ii v2))] 11 []
    refine jr_iconst ok d_QR_readOpened_11 ?_
    exact jh_iret (ψ := aS A0) (Lf := wtL D g) (bc := CW.bc) (bs := CW.bs) A0 ok fin hcc hs d_QR_readOpened_12

def q_QR_readFactor_50 (oS oF : CW → WS → Int → Option (Int × CW × WS)) (c : CW) (v1 : Int) (v2 : Int) (S : WS) : Option (Int × CW × WS) := mb3 (s_QR_readOpened oS oF c S v2 v1) (fun r13 e13 S13 => some (r13, e13, S13))

def s_QR_readFactor (oS oF : CW → WS → Int → Option (Int × CW × WS)) (C0 : CW) (S : WS) (v1 : Int) : Option (Int × CW × WS) := mb2 (s_Lx_kind C0 S ) (fun r14 S14 => if w32 r14 = 302 then mb2 (s_Lx_number C0 S14 ) (fun r22 S22 => mb3 (s_Pg_addNumber C0 S22 r22) (fun r23 e23 S23 => mb2 (s_Lx_advance e23 S23 ) (fun r24 S24 => some (-1, e23, S24)))) else if w32 r14 = 40 then q_QR_readFactor_50 oS oF  C0 v1 r14 S14 else if w32 r14 = 45 then q_QR_readFactor_50 oS oF  C0 v1 r14 S14 else mb3 (s_QR_funcKind C0 S14 ) (fun r18 e18 S18 => if w32 r18 = (-1) then mb2 (s_QR_refuse e18 S18 2) (fun r20 S20 => some (-1, e18, S20)) else mb3 (s_QR_readFunc e18 S18 r18) (fun r21 e21 S21 => some (r21, e21, S21))))
set_option maxHeartbeats 4000000 in
set_option maxRecDepth 100000 in
theorem r_QR_readFactor (l : Launch) (oS oF : CW → WS → Int → Option (Int × CW × WS)) (fr lo : Nat) (hoS : jO l y_QR_readSum b_QR_readSum 6 fr lo oS) (hoF : jO l y_QR_readFactor b_QR_readFactor 4 fr lo oF) (D : jd_T) (g : Nat → Nat) (A0 : AW) (C0 : CW) (S : WS) (v1 : Int) (r : Int) (c9 : CW) (S9 : WS)  (hs : s_QR_readFactor oS oF C0 S v1 = some (r, c9, S9)) : jgI_C l D y_QR_readFactor b_QR_readFactor 4 (some .int) { frames := fr + 6, cells := C0.bc, slots := C0.bs, locals := lo + 152 } [.ref (g 10), .int (ii v1)] (wtL D g A0 C0 S) (fun A : AW => (.returned (some (.int (ii r))), (c9.bc ≤ C0.bc ∧ c9.bs ≤ C0.bs) ∧ aS A0 A, wtL D g A c9 S9, C0.bc - c9.bc, C0.bs - c9.bs)) := by
  refine jgI_of rfl (Nat.le_of_ble_eq_true rfl) ?_
  intro X hl hR hN ok hI hnm fin
  subst hl
  have hcc : (C0.bc ≤ C0.bc ∧ C0.bs ≤ C0.bs) ∧ aS A0 A0 := ⟨⟨Nat.le_refl _, Nat.le_refl _⟩, fun _ _ _ => rfl⟩
  have B_50 : ∀ (A : AW) (c : CW) (v1 : Int) (v2 : Int) (S : WS), (c.bc ≤ C0.bc ∧ c.bs ≤ C0.bs) ∧ aS A0 A → q_QR_readFactor_50 oS oF  c v1 v2 S = some (r, c9, S9) → jw X (C0.bc - c.bc) (C0.bs - c.bs) (wtL D g A c S) [(0, .ref (g 10)), (1, .int (ii v1)), (2, .int (ii v2))] 50 [] := by
    intro A c v1 v2 S hcc hs
    rw [q_QR_readFactor_50] at hs
    refine jr_aload_n ok 0 d_QR_readFactor_50 rfl rfl ?_
    refine jr_iload_n ok 2 d_QR_readFactor_51 rfl rfl ?_
    refine jr_iload_n ok 1 d_QR_readFactor_52 rfl rfl ?_
    obtain ⟨r13, e13, S13, hc13, hs⟩ := mb3_some hs
    refine jh_gV1 (Lo := fun A => wtL D g A e13 S13) ok hI hR hcc.1 m_QR_125 (r_QR_readOpened (jx_l X) oS oF fr lo hoS hoF D g A c S v2 v1 r13 e13 S13  hc13) (sg_atk 13 rfl) rfl rfl rfl (Nat.le_of_ble_eq_true rfl) ⟨by first | omega | (dsimp only; omega), by first | omega | (dsimp only; omega)⟩ d_QR_readFactor_53 (fun A13 hcb13 hst13 => ?_)
    have hcc13 : (e13.bc ≤ C0.bc ∧ e13.bs ≤ C0.bs) ∧ aS A0 A13 := ⟨hcb13, aS_tr hcc.2 hst13⟩
    show jw X (C0.bc - e13.bc) (C0.bs - e13.bs) (wtL D g A13 e13 S13) [(0, .ref (g 10)), (1, .int (ii v1)), (2, .int (ii v2))] 56 [.int (ii r13)]
    exact jh_iret (ψ := aS A0) (Lf := wtL D g) (bc := CW.bc) (bs := CW.bs) A13 ok fin hcc13 hs d_QR_readFactor_56
  refine jr_widen (cs' := C0.bc - C0.bc) (sl' := C0.bs - C0.bs) (Nat.zero_le _) (Nat.zero_le _) ?_
  show jw X (C0.bc - C0.bc) (C0.bs - C0.bs) (wtL D g A0 C0 S) [(0, .ref (g 10)), (1, .int (ii v1))] 0 []
  rw [s_QR_readFactor] at hs
  refine jr_aload_n ok 0 d_QR_readFactor_0 rfl rfl ?_
  refine jr_get (v := .ref (g 11)) ok 13 f_QR_24 rfl rfl d_QR_readFactor_1 ?_
  obtain ⟨r14, S14, hc14, hs⟩ := mb2_some hs
  refine jq_cV1 ok hR m_QR_53 (r_Lx_kind (jx_l X) D g A0 C0 S  r14 S14  hc14) (sg_atk 14 rfl) rfl rfl rfl (Nat.le_of_ble_eq_true rfl) ⟨by first | omega | (dsimp only; omega), by first | omega | (dsimp only; omega)⟩ ⟨Nat.sub_le _ _, Nat.sub_le _ _⟩ d_QR_readFactor_4 ?_
  show jw X (C0.bc - C0.bc) (C0.bs - C0.bs) (wtL D g A0 C0 S14) [(0, .ref (g 10)), (1, .int (ii v1))] 7 [.int (ii r14)]
  refine jr_istore_n [(2, .int (ii r14)), (0, .ref (g 10)), (1, .int (ii v1))] ok d_QR_readFactor_7 rfl (by rw [hN]; decide) rfl ?_
  refine jr_iload_n ok 0 d_QR_readFactor_8 rfl rfl ?_
  refine jr_sipush ok d_QR_readFactor_9 (by decide +kernel) ?_
  refine jr_wicmp_ne 38 ok rfl (show w32 302 = 302 by decide) d_QR_readFactor_12 (by decide) (fun c15 => ?_) (fun c15 => ?_)
  · replace hs := oq_neg c15 hs
    refine jr_iload_n ok 0 d_QR_readFactor_38 rfl rfl ?_
    refine jr_bipush ok d_QR_readFactor_39 (by decide +kernel) ?_
    refine jr_wicmp_eq 50 ok rfl (show w32 40 = 40 by decide) d_QR_readFactor_41 (by decide) (fun c16 => ?_) (fun c16 => ?_)
    · replace hs := oq_pos c16 hs
      exact jr_lv [1, 2, 0] rfl (B_50 A0 C0 v1 r14 S14 hcc hs)
    · replace hs := oq_neg c16 hs
      refine jr_iload_n ok 0 d_QR_readFactor_44 rfl rfl ?_
      refine jr_bipush ok d_QR_readFactor_45 (by decide +kernel) ?_
      refine jr_wicmp_ne 57 ok rfl (show w32 45 = 45 by decide) d_QR_readFactor_47 (by decide) (fun c17 => ?_) (fun c17 => ?_)
      · replace hs := oq_neg c17 hs
        refine jr_aload_n ok 1 d_QR_readFactor_57 rfl rfl ?_
        obtain ⟨r18, e18, S18, hc18, hs⟩ := mb3_some hs
        refine jh_gV1 (Lo := fun A => wtL D g A e18 S18) ok hI hR hcc.1 m_QR_128 (r_QR_funcKind (jx_l X) D g A0 C0 S14  r18 e18 S18  hc18) (sg_atk 13 rfl) rfl rfl rfl (Nat.le_of_ble_eq_true rfl) ⟨by first | omega | (dsimp only; omega), by first | omega | (dsimp only; omega)⟩ d_QR_readFactor_58 (fun A18 hcb18 hst18 => ?_)
        have hcc18 : (e18.bc ≤ C0.bc ∧ e18.bs ≤ C0.bs) ∧ aS A0 A18 := ⟨hcb18, aS_tr hcc.2 hst18⟩
        show jw X (C0.bc - e18.bc) (C0.bs - e18.bs) (wtL D g A18 e18 S18) [(2, .int (ii r14)), (0, .ref (g 10)), (1, .int (ii v1))] 61 [.int (ii r18)]
        refine jr_istore_n [(3, .int (ii r18)), (2, .int (ii r14)), (0, .ref (g 10)), (1, .int (ii v1))] ok d_QR_readFactor_61 rfl (by rw [hN]; decide) rfl ?_
        refine jr_iload_n ok 0 d_QR_readFactor_62 rfl rfl ?_
        refine jr_iconst ok d_QR_readFactor_63 ?_
        refine jr_wicmp_eq 73 ok rfl (show w32 (-1) = (-1) by decide) d_QR_readFactor_64 (by decide) (fun c19 => ?_) (fun c19 => ?_)
        · replace hs := oq_pos c19 hs
          refine jr_aload_n ok 2 d_QR_readFactor_73 rfl rfl ?_
          refine jr_iconst ok d_QR_readFactor_74 ?_
          obtain ⟨r20, S20, hc20, hs⟩ := mb2_some hs
          refine jq_cV0 ok hR m_QR_57 (r_QR_refuse (jx_l X) D g A18 e18 S18 2 r20 S20  hc20) (sg_atk 13 rfl) rfl rfl rfl (Nat.le_of_ble_eq_true rfl) ⟨by first | omega | (dsimp only; omega), by first | omega | (dsimp only; omega)⟩ ⟨Nat.sub_le _ _, Nat.sub_le _ _⟩ d_QR_readFactor_75 ?_
          show jw X (C0.bc - e18.bc) (C0.bs - e18.bs) (wtL D g A18 e18 S20) [(3, .int (ii r18)), (2, .int (ii r14)), (0, .ref (g 10)), (1, .int (ii v1))] 78 []
          refine jr_iconst ok d_QR_readFactor_78 ?_
          exact jh_iret (ψ := aS A0) (Lf := wtL D g) (bc := CW.bc) (bs := CW.bs) A18 ok fin hcc18 hs d_QR_readFactor_79
        · replace hs := oq_neg c19 hs
          refine jr_aload_n ok 2 d_QR_readFactor_67 rfl rfl ?_
          refine jr_iload_n ok 0 d_QR_readFactor_68 rfl rfl ?_
          obtain ⟨r21, e21, S21, hc21, hs⟩ := mb3_some hs
          refine jh_gV1 (Lo := fun A => wtL D g A e21 S21) ok hI hR hcc18.1 m_QR_131 (r_QR_readFunc (jx_l X) D g A18 e18 S18 r18 r21 e21 S21  hc21) (sg_atk 13 rfl) rfl rfl rfl (Nat.le_of_ble_eq_true rfl) ⟨by first | omega | (dsimp only; omega), by first | omega | (dsimp only; omega)⟩ d_QR_readFactor_69 (fun A21 hcb21 hst21 => ?_)
          have hcc21 : (e21.bc ≤ C0.bc ∧ e21.bs ≤ C0.bs) ∧ aS A0 A21 := ⟨hcb21, aS_tr hcc18.2 hst21⟩
          show jw X (C0.bc - e21.bc) (C0.bs - e21.bs) (wtL D g A21 e21 S21) [(3, .int (ii r18)), (2, .int (ii r14)), (0, .ref (g 10)), (1, .int (ii v1))] 72 [.int (ii r21)]
          exact jh_iret (ψ := aS A0) (Lf := wtL D g) (bc := CW.bc) (bs := CW.bs) A21 ok fin hcc21 hs d_QR_readFactor_72
      · replace hs := oq_pos c17 hs
        exact jr_lv [1, 2, 0] rfl (B_50 A0 C0 v1 r14 S14 hcc hs)
  · replace hs := oq_pos c15 hs
    refine jr_aload_n ok 1 d_QR_readFactor_15 rfl rfl ?_
    refine jr_get (v := .ref (g 9)) ok 13 f_QR_15 rfl rfl d_QR_readFactor_16 ?_
    refine jr_aload_n ok 1 d_QR_readFactor_19 rfl rfl ?_
    refine jr_get (v := .ref (g 11)) ok 13 f_QR_24 rfl rfl d_QR_readFactor_20 ?_
    obtain ⟨r22, S22, hc22, hs⟩ := mb2_some hs
    refine jq_cV1 ok hR m_QR_117 (r_Lx_number (jx_l X) D g A0 C0 S14  r22 S22  hc22) (sg_atk 14 rfl) rfl rfl rfl (Nat.le_of_ble_eq_true rfl) ⟨by first | omega | (dsimp only; omega), by first | omega | (dsimp only; omega)⟩ ⟨Nat.sub_le _ _, Nat.sub_le _ _⟩ d_QR_readFactor_23 ?_
    show jw X (C0.bc - C0.bc) (C0.bs - C0.bs) (wtL D g A0 C0 S22) [(2, .int (ii r14)), (0, .ref (g 10)), (1, .int (ii v1))] 26 [.long r22, .ref (g 9)]
    obtain ⟨r23, e23, S23, hc23, hs⟩ := mb3_some hs
    refine jh_gV0 (Lo := fun A => wtL D g A e23 S23) ok hI hR hcc.1 m_QR_121 (r_Pg_addNumber (jx_l X) D g A0 C0 S22 r22 r23 e23 S23  hc23) (sg_atk 11 rfl) rfl rfl rfl (Nat.le_of_ble_eq_true rfl) ⟨by first | omega | (dsimp only; omega), by first | omega | (dsimp only; omega)⟩ d_QR_readFactor_26 (fun A23 hcb23 hst23 => ?_)
    have hcc23 : (e23.bc ≤ C0.bc ∧ e23.bs ≤ C0.bs) ∧ aS A0 A23 := ⟨hcb23, aS_tr hcc.2 hst23⟩
    show jw X (C0.bc - e23.bc) (C0.bs - e23.bs) (wtL D g A23 e23 S23) [(2, .int (ii r14)), (0, .ref (g 10)), (1, .int (ii v1))] 29 []
    refine jr_aload_n ok 1 d_QR_readFactor_29 rfl rfl ?_
    refine jr_get (v := .ref (g 11)) ok 13 f_QR_24 rfl rfl d_QR_readFactor_30 ?_
    obtain ⟨r24, S24, hc24, hs⟩ := mb2_some hs
    refine jq_cV0 ok hR m_QR_67 (r_Lx_advance (jx_l X) D g A23 e23 S23  r24 S24  hc24) (sg_atk 14 rfl) rfl rfl rfl (Nat.le_of_ble_eq_true rfl) ⟨by first | omega | (dsimp only; omega), by first | omega | (dsimp only; omega)⟩ ⟨Nat.sub_le _ _, Nat.sub_le _ _⟩ d_QR_readFactor_33 ?_
    show jw X (C0.bc - e23.bc) (C0.bs - e23.bs) (wtL D g A23 e23 S24) [(2, .int (ii r14)), (0, .ref (g 10)), (1, .int (ii v1))] 36 []
    refine jr_iconst ok d_QR_readFactor_36 ?_
    exact jh_iret (ψ := aS A0) (Lf := wtL D g) (bc := CW.bc) (bs := CW.bs) A23 ok fin hcc23 hs d_QR_readFactor_37

def q_QR_readProduct_14 (oS oF : CW → WS → Int → Option (Int × CW × WS)) : Nat → CW → Int → Int → Int → WS → Option (Int × CW × WS)
  | 0, _, _, _, _, _ => none
  | n + 1, c, v1, v2, v3, S => if w32 v3 ≤ 0 then some (v2, c, S) else mb2 (s_Lx_kind c S ) (fun r14 S14 => mb1 (s_QR_isProductSign r14) (fun r15 => if w32 r15 = 0 then some (v2, c, S14) else mb2 (s_Lx_kind c S14 ) (fun r17 S17 => mb2 (s_Lx_at c S17 ) (fun r18 S18 => mb2 (s_Lx_advance c S18 ) (fun r19 S19 => mb3 (s_QR_readFactor oS oF c S19 v1) (fun r20 e20 S20 => mb2 (s_QR_join e20 S20 v2 r20 r18) (fun r21 S21 => mb3 (s_Pg_add e20 S21 r17) (fun r22 e22 S22 => (q_QR_readProduct_14 oS oF  n) e22 v1 r21 (v3 + (-1)) S22))))))))

def s_QR_readProduct (oS oF : CW → WS → Int → Option (Int × CW × WS)) (C0 : CW) (S : WS) (v1 : Int) : Option (Int × CW × WS) := mb3 (s_QR_readFactor oS oF C0 S v1) (fun r23 e23 S23 => mb2 (s_Tp_size e23 S23 ) (fun r24 S24 => q_QR_readProduct_14 oS oF  fU e23 v1 r23 r24 S24))
set_option maxHeartbeats 4000000 in
set_option maxRecDepth 100000 in
theorem r_QR_readProduct (l : Launch) (oS oF : CW → WS → Int → Option (Int × CW × WS)) (fr lo : Nat) (hoS : jO l y_QR_readSum b_QR_readSum 6 fr lo oS) (hoF : jO l y_QR_readFactor b_QR_readFactor 4 fr lo oF) (D : jd_T) (g : Nat → Nat) (A0 : AW) (C0 : CW) (S : WS) (v1 : Int) (r : Int) (c9 : CW) (S9 : WS)  (hs : s_QR_readProduct oS oF C0 S v1 = some (r, c9, S9)) : jgI_C l D y_QR_readProduct b_QR_readProduct 6 (some .int) { frames := fr + 7, cells := C0.bc, slots := C0.bs, locals := lo + 175 } [.ref (g 10), .int (ii v1)] (wtL D g A0 C0 S) (fun A : AW => (.returned (some (.int (ii r))), (c9.bc ≤ C0.bc ∧ c9.bs ≤ C0.bs) ∧ aS A0 A, wtL D g A c9 S9, C0.bc - c9.bc, C0.bs - c9.bs)) := by
  refine jgI_of rfl (Nat.le_of_ble_eq_true rfl) ?_
  intro X hl hR hN ok hI hnm fin
  subst hl
  have hcc : (C0.bc ≤ C0.bc ∧ C0.bs ≤ C0.bs) ∧ aS A0 A0 := ⟨⟨Nat.le_refl _, Nat.le_refl _⟩, fun _ _ _ => rfl⟩
  have B_14 : ∀ (n14 : Nat), ∀ (A : AW) (c : CW) (v1 : Int) (v2 : Int) (v3 : Int) (S : WS), (c.bc ≤ C0.bc ∧ c.bs ≤ C0.bs) ∧ aS A0 A → q_QR_readProduct_14 oS oF  n14 c v1 v2 v3 S = some (r, c9, S9) → jw X (C0.bc - c.bc) (C0.bs - c.bs) (wtL D g A c S) [(0, .ref (g 10)), (1, .int (ii v1)), (2, .int (ii v2)), (3, .int (ii v3))] 14 [] := by
    intro n14
    induction n14 with
    | zero =>
      intro A c v1 v2 v3 S hcc hs
      rw [q_QR_readProduct_14] at hs; cases hs
    | succ n14 ih14 =>
      intro A c v1 v2 v3 S hcc hs
      rw [q_QR_readProduct_14] at hs
      refine jr_iload_n ok 3 d_QR_readProduct_14 rfl rfl ?_
      refine jr_wif_le 84 ok rfl d_QR_readProduct_15 (by decide) (fun c13 => ?_) (fun c13 => ?_)
      · replace hs := oq_pos c13 hs
        refine jr_iload_n ok 2 d_QR_readProduct_84 rfl rfl ?_
        exact jh_iret (ψ := aS A0) (Lf := wtL D g) (bc := CW.bc) (bs := CW.bs) A ok fin hcc hs d_QR_readProduct_85
      · replace hs := oq_neg c13 hs
        refine jr_aload_n ok 0 d_QR_readProduct_18 rfl rfl ?_
        refine jr_get (v := .ref (g 11)) ok 13 f_QR_24 rfl rfl d_QR_readProduct_19 ?_
        obtain ⟨r14, S14, hc14, hs⟩ := mb2_some hs
        refine jq_cV1 ok hR m_QR_53 (r_Lx_kind (jx_l X) D g A c S  r14 S14  hc14) (sg_atk 14 rfl) rfl rfl rfl (Nat.le_of_ble_eq_true rfl) ⟨by first | omega | (dsimp only; omega), by first | omega | (dsimp only; omega)⟩ ⟨Nat.sub_le _ _, Nat.sub_le _ _⟩ d_QR_readProduct_22 ?_
        show jw X (C0.bc - c.bc) (C0.bs - c.bs) (wtL D g A c S14) [(0, .ref (g 10)), (1, .int (ii v1)), (2, .int (ii v2)), (3, .int (ii v3))] 25 [.int (ii r14)]
        obtain ⟨r15, hc15, hs⟩ := mb1_some hs
        refine jr_mS1 ok hR m_QR_92 (r_QR_isProductSign (jx_l X) D r14 r15 hc15) rfl rfl (Nat.le_of_ble_eq_true rfl) ⟨by first | omega | (dsimp only; omega), by first | omega | (dsimp only; omega)⟩ ⟨Nat.sub_le _ _, Nat.sub_le _ _⟩ d_QR_readProduct_25 ?_
        show jw X (C0.bc - c.bc) (C0.bs - c.bs) (wtL D g A c S14) [(0, .ref (g 10)), (1, .int (ii v1)), (2, .int (ii v2)), (3, .int (ii v3))] 28 [.int (ii r15)]
        refine jr_wif_eq 84 ok rfl d_QR_readProduct_28 (by decide) (fun c16 => ?_) (fun c16 => ?_)
        · replace hs := oq_pos c16 hs
          refine jr_iload_n ok 2 d_QR_readProduct_84 rfl rfl ?_
          exact jh_iret (ψ := aS A0) (Lf := wtL D g) (bc := CW.bc) (bs := CW.bs) A ok fin hcc hs d_QR_readProduct_85
        · replace hs := oq_neg c16 hs
          refine jr_aload_n ok 0 d_QR_readProduct_31 rfl rfl ?_
          refine jr_get (v := .ref (g 11)) ok 13 f_QR_24 rfl rfl d_QR_readProduct_32 ?_
          obtain ⟨r17, S17, hc17, hs⟩ := mb2_some hs
          refine jq_cV1 ok hR m_QR_53 (r_Lx_kind (jx_l X) D g A c S14  r17 S17  hc17) (sg_atk 14 rfl) rfl rfl rfl (Nat.le_of_ble_eq_true rfl) ⟨by first | omega | (dsimp only; omega), by first | omega | (dsimp only; omega)⟩ ⟨Nat.sub_le _ _, Nat.sub_le _ _⟩ d_QR_readProduct_35 ?_
          show jw X (C0.bc - c.bc) (C0.bs - c.bs) (wtL D g A c S17) [(0, .ref (g 10)), (1, .int (ii v1)), (2, .int (ii v2)), (3, .int (ii v3))] 38 [.int (ii r17)]
          refine jr_istore [(4, .int (ii r17)), (0, .ref (g 10)), (1, .int (ii v1)), (2, .int (ii v2)), (3, .int (ii v3))] ok d_QR_readProduct_38 (by rw [hN]; decide) rfl ?_
          refine jr_aload_n ok 1 d_QR_readProduct_40 rfl rfl ?_
          refine jr_get (v := .ref (g 11)) ok 13 f_QR_24 rfl rfl d_QR_readProduct_41 ?_
          obtain ⟨r18, S18, hc18, hs⟩ := mb2_some hs
          refine jq_cV1 ok hR m_QR_61 (r_Lx_at (jx_l X) D g A c S17  r18 S18  hc18) (sg_atk 14 rfl) rfl rfl rfl (Nat.le_of_ble_eq_true rfl) ⟨by first | omega | (dsimp only; omega), by first | omega | (dsimp only; omega)⟩ ⟨Nat.sub_le _ _, Nat.sub_le _ _⟩ d_QR_readProduct_44 ?_
          show jw X (C0.bc - c.bc) (C0.bs - c.bs) (wtL D g A c S18) [(4, .int (ii r17)), (0, .ref (g 10)), (1, .int (ii v1)), (2, .int (ii v2)), (3, .int (ii v3))] 47 [.int (ii r18)]
          refine jr_istore [(5, .int (ii r18)), (4, .int (ii r17)), (0, .ref (g 10)), (1, .int (ii v1)), (2, .int (ii v2)), (3, .int (ii v3))] ok d_QR_readProduct_47 (by rw [hN]; decide) rfl ?_
          refine jr_aload_n ok 2 d_QR_readProduct_49 rfl rfl ?_
          refine jr_get (v := .ref (g 11)) ok 13 f_QR_24 rfl rfl d_QR_readProduct_50 ?_
          obtain ⟨r19, S19, hc19, hs⟩ := mb2_some hs
          refine jq_cV0 ok hR m_QR_67 (r_Lx_advance (jx_l X) D g A c S18  r19 S19  hc19) (sg_atk 14 rfl) rfl rfl rfl (Nat.le_of_ble_eq_true rfl) ⟨by first | omega | (dsimp only; omega), by first | omega | (dsimp only; omega)⟩ ⟨Nat.sub_le _ _, Nat.sub_le _ _⟩ d_QR_readProduct_53 ?_
          show jw X (C0.bc - c.bc) (C0.bs - c.bs) (wtL D g A c S19) [(5, .int (ii r18)), (4, .int (ii r17)), (0, .ref (g 10)), (1, .int (ii v1)), (2, .int (ii v2)), (3, .int (ii v3))] 56 []
          refine jr_aload_n ok 2 d_QR_readProduct_56 rfl rfl ?_
          refine jr_iload_n ok 4 d_QR_readProduct_57 rfl rfl ?_
          refine jr_aload_n ok 2 d_QR_readProduct_58 rfl rfl ?_
          refine jr_iload_n ok 3 d_QR_readProduct_59 rfl rfl ?_
          obtain ⟨r20, e20, S20, hc20, hs⟩ := mb3_some hs
          refine jh_gV1 (Lo := fun A => wtL D g A e20 S20) ok hI hR hcc.1 m_QR_89 (r_QR_readFactor (jx_l X) oS oF fr lo hoS hoF D g A c S19 v1 r20 e20 S20  hc20) (sg_atk 13 rfl) rfl rfl rfl (Nat.le_of_ble_eq_true rfl) ⟨by first | omega | (dsimp only; omega), by first | omega | (dsimp only; omega)⟩ d_QR_readProduct_60 (fun A20 hcb20 hst20 => ?_)
          have hcc20 : (e20.bc ≤ C0.bc ∧ e20.bs ≤ C0.bs) ∧ aS A0 A20 := ⟨hcb20, aS_tr hcc.2 hst20⟩
          show jw X (C0.bc - e20.bc) (C0.bs - e20.bs) (wtL D g A20 e20 S20) [(5, .int (ii r18)), (4, .int (ii r17)), (0, .ref (g 10)), (1, .int (ii v1)), (2, .int (ii v2)), (3, .int (ii v3))] 63 [.int (ii r20), .int (ii v2), .ref (g 10)]
          refine jr_iload ok 0 d_QR_readProduct_63 rfl ?_
          obtain ⟨r21, S21, hc21, hs⟩ := mb2_some hs
          refine jq_cV1 ok hR m_QR_82 (r_QR_join (jx_l X) D g A20 e20 S20 v2 r20 r18 r21 S21  hc21) (sg_atk 13 rfl) rfl rfl rfl (Nat.le_of_ble_eq_true rfl) ⟨by first | omega | (dsimp only; omega), by first | omega | (dsimp only; omega)⟩ ⟨Nat.sub_le _ _, Nat.sub_le _ _⟩ d_QR_readProduct_65 ?_
          show jw X (C0.bc - e20.bc) (C0.bs - e20.bs) (wtL D g A20 e20 S21) [(5, .int (ii r18)), (4, .int (ii r17)), (0, .ref (g 10)), (1, .int (ii v1)), (2, .int (ii v2)), (3, .int (ii v3))] 68 [.int (ii r21)]
          refine jr_istore_n [(2, .int (ii r21)), (5, .int (ii r18)), (4, .int (ii r17)), (0, .ref (g 10)), (1, .int (ii v1)), (3, .int (ii v3))] ok d_QR_readProduct_68 rfl (by rw [hN]; decide) rfl ?_
          refine jr_aload_n ok 3 d_QR_readProduct_69 rfl rfl ?_
          refine jr_get (v := .ref (g 9)) ok 13 f_QR_15 rfl rfl d_QR_readProduct_70 ?_
          refine jr_iload ok 2 d_QR_readProduct_73 rfl ?_
          obtain ⟨r22, e22, S22, hc22, hs⟩ := mb3_some hs
          refine jh_gV0 (Lo := fun A => wtL D g A e22 S22) ok hI hR hcc20.1 m_QR_86 (r_Pg_add (jx_l X) D g A20 e20 S21 r17 r22 e22 S22  hc22) (sg_atk 11 rfl) rfl rfl rfl (Nat.le_of_ble_eq_true rfl) ⟨by first | omega | (dsimp only; omega), by first | omega | (dsimp only; omega)⟩ d_QR_readProduct_75 (fun A22 hcb22 hst22 => ?_)
          have hcc22 : (e22.bc ≤ C0.bc ∧ e22.bs ≤ C0.bs) ∧ aS A0 A22 := ⟨hcb22, aS_tr hcc20.2 hst22⟩
          show jw X (C0.bc - e22.bc) (C0.bs - e22.bs) (wtL D g A22 e22 S22) [(2, .int (ii r21)), (5, .int (ii r18)), (4, .int (ii r17)), (0, .ref (g 10)), (1, .int (ii v1)), (3, .int (ii v3))] 78 []
          refine jr_iinc [(3, .int (ii (v3 + (-1)))), (2, .int (ii r21)), (5, .int (ii r18)), (4, .int (ii r17)), (0, .ref (g 10)), (1, .int (ii v1))] 5 ok d_QR_readProduct_78 rfl (by rw [hN]; decide) rfl ?_
          refine jr_goto 14 ok d_QR_readProduct_81 (by decide) ?_
          exact jr_lv [4, 5, 1, 0] rfl (ih14 A22 e22 v1 r21 (v3 + (-1)) S22 hcc22 hs)
  refine jr_widen (cs' := C0.bc - C0.bc) (sl' := C0.bs - C0.bs) (Nat.zero_le _) (Nat.zero_le _) ?_
  show jw X (C0.bc - C0.bc) (C0.bs - C0.bs) (wtL D g A0 C0 S) [(0, .ref (g 10)), (1, .int (ii v1))] 0 []
  rw [s_QR_readProduct] at hs
  refine jr_aload_n ok 0 d_QR_readProduct_0 rfl rfl ?_
  refine jr_iload_n ok 1 d_QR_readProduct_1 rfl rfl ?_
  obtain ⟨r23, e23, S23, hc23, hs⟩ := mb3_some hs
  refine jh_gV1 (Lo := fun A => wtL D g A e23 S23) ok hI hR hcc.1 m_QR_89 (r_QR_readFactor (jx_l X) oS oF fr lo hoS hoF D g A0 C0 S v1 r23 e23 S23  hc23) (sg_atk 13 rfl) rfl rfl rfl (Nat.le_of_ble_eq_true rfl) ⟨by first | omega | (dsimp only; omega), by first | omega | (dsimp only; omega)⟩ d_QR_readProduct_2 (fun A23 hcb23 hst23 => ?_)
  have hcc23 : (e23.bc ≤ C0.bc ∧ e23.bs ≤ C0.bs) ∧ aS A0 A23 := ⟨hcb23, aS_tr hcc.2 hst23⟩
  show jw X (C0.bc - e23.bc) (C0.bs - e23.bs) (wtL D g A23 e23 S23) [(0, .ref (g 10)), (1, .int (ii v1))] 5 [.int (ii r23)]
  refine jr_istore_n [(2, .int (ii r23)), (0, .ref (g 10)), (1, .int (ii v1))] ok d_QR_readProduct_5 rfl (by rw [hN]; decide) rfl ?_
  refine jr_aload_n ok 1 d_QR_readProduct_6 rfl rfl ?_
  refine jr_get (v := .ref (g 1)) ok 13 f_QR_9 rfl rfl d_QR_readProduct_7 ?_
  obtain ⟨r24, S24, hc24, hs⟩ := mb2_some hs
  refine jq_cV1 ok hR m_QR_73 (r_Tp_size (jx_l X) D g A23 e23 S23  r24 S24  hc24) (sg_atk 1 rfl) rfl rfl rfl (Nat.le_of_ble_eq_true rfl) ⟨by first | omega | (dsimp only; omega), by first | omega | (dsimp only; omega)⟩ ⟨Nat.sub_le _ _, Nat.sub_le _ _⟩ d_QR_readProduct_10 ?_
  show jw X (C0.bc - e23.bc) (C0.bs - e23.bs) (wtL D g A23 e23 S24) [(2, .int (ii r23)), (0, .ref (g 10)), (1, .int (ii v1))] 13 [.int (ii r24)]
  refine jr_istore_n [(3, .int (ii r24)), (2, .int (ii r23)), (0, .ref (g 10)), (1, .int (ii v1))] ok d_QR_readProduct_13 rfl (by rw [hN]; decide) rfl ?_
  exact jr_lv [2, 3, 1, 0] rfl (B_14 fU A23 e23 v1 r23 r24 S24 hcc23 hs)

def q_QR_readSum_14 (oS oF : CW → WS → Int → Option (Int × CW × WS)) : Nat → CW → Int → Int → Int → WS → Option (Int × CW × WS)
  | 0, _, _, _, _, _ => none
  | n + 1, c, v1, v2, v3, S => if w32 v3 ≤ 0 then some (v2, c, S) else mb2 (s_Lx_kind c S ) (fun r14 S14 => mb1 (s_QR_isSumSign r14) (fun r15 => if w32 r15 = 0 then some (v2, c, S14) else mb2 (s_Lx_kind c S14 ) (fun r17 S17 => mb2 (s_Lx_at c S17 ) (fun r18 S18 => mb2 (s_Lx_advance c S18 ) (fun r19 S19 => mb3 (s_QR_readProduct oS oF c S19 v1) (fun r20 e20 S20 => mb2 (s_QR_join e20 S20 v2 r20 r18) (fun r21 S21 => mb3 (s_Pg_add e20 S21 r17) (fun r22 e22 S22 => (q_QR_readSum_14 oS oF  n) e22 v1 r21 (v3 + (-1)) S22))))))))

def s_QR_readSum (oS oF : CW → WS → Int → Option (Int × CW × WS)) (C0 : CW) (S : WS) (v1 : Int) : Option (Int × CW × WS) := mb3 (s_QR_readProduct oS oF C0 S v1) (fun r23 e23 S23 => mb2 (s_Tp_size e23 S23 ) (fun r24 S24 => q_QR_readSum_14 oS oF  fU e23 v1 r23 r24 S24))
set_option maxHeartbeats 4000000 in
set_option maxRecDepth 100000 in
theorem r_QR_readSum (l : Launch) (oS oF : CW → WS → Int → Option (Int × CW × WS)) (fr lo : Nat) (hoS : jO l y_QR_readSum b_QR_readSum 6 fr lo oS) (hoF : jO l y_QR_readFactor b_QR_readFactor 4 fr lo oF) (D : jd_T) (g : Nat → Nat) (A0 : AW) (C0 : CW) (S : WS) (v1 : Int) (r : Int) (c9 : CW) (S9 : WS)  (hs : s_QR_readSum oS oF C0 S v1 = some (r, c9, S9)) : jgI_C l D y_QR_readSum b_QR_readSum 6 (some .int) { frames := fr + 8, cells := C0.bc, slots := C0.bs, locals := lo + 200 } [.ref (g 10), .int (ii v1)] (wtL D g A0 C0 S) (fun A : AW => (.returned (some (.int (ii r))), (c9.bc ≤ C0.bc ∧ c9.bs ≤ C0.bs) ∧ aS A0 A, wtL D g A c9 S9, C0.bc - c9.bc, C0.bs - c9.bs)) := by
  refine jgI_of rfl (Nat.le_of_ble_eq_true rfl) ?_
  intro X hl hR hN ok hI hnm fin
  subst hl
  have hcc : (C0.bc ≤ C0.bc ∧ C0.bs ≤ C0.bs) ∧ aS A0 A0 := ⟨⟨Nat.le_refl _, Nat.le_refl _⟩, fun _ _ _ => rfl⟩
  have B_14 : ∀ (n14 : Nat), ∀ (A : AW) (c : CW) (v1 : Int) (v2 : Int) (v3 : Int) (S : WS), (c.bc ≤ C0.bc ∧ c.bs ≤ C0.bs) ∧ aS A0 A → q_QR_readSum_14 oS oF  n14 c v1 v2 v3 S = some (r, c9, S9) → jw X (C0.bc - c.bc) (C0.bs - c.bs) (wtL D g A c S) [(0, .ref (g 10)), (1, .int (ii v1)), (2, .int (ii v2)), (3, .int (ii v3))] 14 [] := by
    intro n14
    induction n14 with
    | zero =>
      intro A c v1 v2 v3 S hcc hs
      rw [q_QR_readSum_14] at hs; cases hs
    | succ n14 ih14 =>
      intro A c v1 v2 v3 S hcc hs
      rw [q_QR_readSum_14] at hs
      refine jr_iload_n ok 3 d_QR_readSum_14 rfl rfl ?_
      refine jr_wif_le 84 ok rfl d_QR_readSum_15 (by decide) (fun c13 => ?_) (fun c13 => ?_)
      · replace hs := oq_pos c13 hs
        refine jr_iload_n ok 2 d_QR_readSum_84 rfl rfl ?_
        exact jh_iret (ψ := aS A0) (Lf := wtL D g) (bc := CW.bc) (bs := CW.bs) A ok fin hcc hs d_QR_readSum_85
      · replace hs := oq_neg c13 hs
        refine jr_aload_n ok 0 d_QR_readSum_18 rfl rfl ?_
        refine jr_get (v := .ref (g 11)) ok 13 f_QR_24 rfl rfl d_QR_readSum_19 ?_
        obtain ⟨r14, S14, hc14, hs⟩ := mb2_some hs
        refine jq_cV1 ok hR m_QR_53 (r_Lx_kind (jx_l X) D g A c S  r14 S14  hc14) (sg_atk 14 rfl) rfl rfl rfl (Nat.le_of_ble_eq_true rfl) ⟨by first | omega | (dsimp only; omega), by first | omega | (dsimp only; omega)⟩ ⟨Nat.sub_le _ _, Nat.sub_le _ _⟩ d_QR_readSum_22 ?_
        show jw X (C0.bc - c.bc) (C0.bs - c.bs) (wtL D g A c S14) [(0, .ref (g 10)), (1, .int (ii v1)), (2, .int (ii v2)), (3, .int (ii v3))] 25 [.int (ii r14)]
        obtain ⟨r15, hc15, hs⟩ := mb1_some hs
        refine jr_mS1 ok hR m_QR_78 (r_QR_isSumSign (jx_l X) D r14 r15 hc15) rfl rfl (Nat.le_of_ble_eq_true rfl) ⟨by first | omega | (dsimp only; omega), by first | omega | (dsimp only; omega)⟩ ⟨Nat.sub_le _ _, Nat.sub_le _ _⟩ d_QR_readSum_25 ?_
        show jw X (C0.bc - c.bc) (C0.bs - c.bs) (wtL D g A c S14) [(0, .ref (g 10)), (1, .int (ii v1)), (2, .int (ii v2)), (3, .int (ii v3))] 28 [.int (ii r15)]
        refine jr_wif_eq 84 ok rfl d_QR_readSum_28 (by decide) (fun c16 => ?_) (fun c16 => ?_)
        · replace hs := oq_pos c16 hs
          refine jr_iload_n ok 2 d_QR_readSum_84 rfl rfl ?_
          exact jh_iret (ψ := aS A0) (Lf := wtL D g) (bc := CW.bc) (bs := CW.bs) A ok fin hcc hs d_QR_readSum_85
        · replace hs := oq_neg c16 hs
          refine jr_aload_n ok 0 d_QR_readSum_31 rfl rfl ?_
          refine jr_get (v := .ref (g 11)) ok 13 f_QR_24 rfl rfl d_QR_readSum_32 ?_
          obtain ⟨r17, S17, hc17, hs⟩ := mb2_some hs
          refine jq_cV1 ok hR m_QR_53 (r_Lx_kind (jx_l X) D g A c S14  r17 S17  hc17) (sg_atk 14 rfl) rfl rfl rfl (Nat.le_of_ble_eq_true rfl) ⟨by first | omega | (dsimp only; omega), by first | omega | (dsimp only; omega)⟩ ⟨Nat.sub_le _ _, Nat.sub_le _ _⟩ d_QR_readSum_35 ?_
          show jw X (C0.bc - c.bc) (C0.bs - c.bs) (wtL D g A c S17) [(0, .ref (g 10)), (1, .int (ii v1)), (2, .int (ii v2)), (3, .int (ii v3))] 38 [.int (ii r17)]
          refine jr_istore [(4, .int (ii r17)), (0, .ref (g 10)), (1, .int (ii v1)), (2, .int (ii v2)), (3, .int (ii v3))] ok d_QR_readSum_38 (by rw [hN]; decide) rfl ?_
          refine jr_aload_n ok 1 d_QR_readSum_40 rfl rfl ?_
          refine jr_get (v := .ref (g 11)) ok 13 f_QR_24 rfl rfl d_QR_readSum_41 ?_
          obtain ⟨r18, S18, hc18, hs⟩ := mb2_some hs
          refine jq_cV1 ok hR m_QR_61 (r_Lx_at (jx_l X) D g A c S17  r18 S18  hc18) (sg_atk 14 rfl) rfl rfl rfl (Nat.le_of_ble_eq_true rfl) ⟨by first | omega | (dsimp only; omega), by first | omega | (dsimp only; omega)⟩ ⟨Nat.sub_le _ _, Nat.sub_le _ _⟩ d_QR_readSum_44 ?_
          show jw X (C0.bc - c.bc) (C0.bs - c.bs) (wtL D g A c S18) [(4, .int (ii r17)), (0, .ref (g 10)), (1, .int (ii v1)), (2, .int (ii v2)), (3, .int (ii v3))] 47 [.int (ii r18)]
          refine jr_istore [(5, .int (ii r18)), (4, .int (ii r17)), (0, .ref (g 10)), (1, .int (ii v1)), (2, .int (ii v2)), (3, .int (ii v3))] ok d_QR_readSum_47 (by rw [hN]; decide) rfl ?_
          refine jr_aload_n ok 2 d_QR_readSum_49 rfl rfl ?_
          refine jr_get (v := .ref (g 11)) ok 13 f_QR_24 rfl rfl d_QR_readSum_50 ?_
          obtain ⟨r19, S19, hc19, hs⟩ := mb2_some hs
          refine jq_cV0 ok hR m_QR_67 (r_Lx_advance (jx_l X) D g A c S18  r19 S19  hc19) (sg_atk 14 rfl) rfl rfl rfl (Nat.le_of_ble_eq_true rfl) ⟨by first | omega | (dsimp only; omega), by first | omega | (dsimp only; omega)⟩ ⟨Nat.sub_le _ _, Nat.sub_le _ _⟩ d_QR_readSum_53 ?_
          show jw X (C0.bc - c.bc) (C0.bs - c.bs) (wtL D g A c S19) [(5, .int (ii r18)), (4, .int (ii r17)), (0, .ref (g 10)), (1, .int (ii v1)), (2, .int (ii v2)), (3, .int (ii v3))] 56 []
          refine jr_aload_n ok 2 d_QR_readSum_56 rfl rfl ?_
          refine jr_iload_n ok 4 d_QR_readSum_57 rfl rfl ?_
          refine jr_aload_n ok 2 d_QR_readSum_58 rfl rfl ?_
          refine jr_iload_n ok 3 d_QR_readSum_59 rfl rfl ?_
          obtain ⟨r20, e20, S20, hc20, hs⟩ := mb3_some hs
          refine jh_gV1 (Lo := fun A => wtL D g A e20 S20) ok hI hR hcc.1 m_QR_70 (r_QR_readProduct (jx_l X) oS oF fr lo hoS hoF D g A c S19 v1 r20 e20 S20  hc20) (sg_atk 13 rfl) rfl rfl rfl (Nat.le_of_ble_eq_true rfl) ⟨by first | omega | (dsimp only; omega), by first | omega | (dsimp only; omega)⟩ d_QR_readSum_60 (fun A20 hcb20 hst20 => ?_)
          have hcc20 : (e20.bc ≤ C0.bc ∧ e20.bs ≤ C0.bs) ∧ aS A0 A20 := ⟨hcb20, aS_tr hcc.2 hst20⟩
          show jw X (C0.bc - e20.bc) (C0.bs - e20.bs) (wtL D g A20 e20 S20) [(5, .int (ii r18)), (4, .int (ii r17)), (0, .ref (g 10)), (1, .int (ii v1)), (2, .int (ii v2)), (3, .int (ii v3))] 63 [.int (ii r20), .int (ii v2), .ref (g 10)]
          refine jr_iload ok 0 d_QR_readSum_63 rfl ?_
          obtain ⟨r21, S21, hc21, hs⟩ := mb2_some hs
          refine jq_cV1 ok hR m_QR_82 (r_QR_join (jx_l X) D g A20 e20 S20 v2 r20 r18 r21 S21  hc21) (sg_atk 13 rfl) rfl rfl rfl (Nat.le_of_ble_eq_true rfl) ⟨by first | omega | (dsimp only; omega), by first | omega | (dsimp only; omega)⟩ ⟨Nat.sub_le _ _, Nat.sub_le _ _⟩ d_QR_readSum_65 ?_
          show jw X (C0.bc - e20.bc) (C0.bs - e20.bs) (wtL D g A20 e20 S21) [(5, .int (ii r18)), (4, .int (ii r17)), (0, .ref (g 10)), (1, .int (ii v1)), (2, .int (ii v2)), (3, .int (ii v3))] 68 [.int (ii r21)]
          refine jr_istore_n [(2, .int (ii r21)), (5, .int (ii r18)), (4, .int (ii r17)), (0, .ref (g 10)), (1, .int (ii v1)), (3, .int (ii v3))] ok d_QR_readSum_68 rfl (by rw [hN]; decide) rfl ?_
          refine jr_aload_n ok 3 d_QR_readSum_69 rfl rfl ?_
          refine jr_get (v := .ref (g 9)) ok 13 f_QR_15 rfl rfl d_QR_readSum_70 ?_
          refine jr_iload ok 2 d_QR_readSum_73 rfl ?_
          obtain ⟨r22, e22, S22, hc22, hs⟩ := mb3_some hs
          refine jh_gV0 (Lo := fun A => wtL D g A e22 S22) ok hI hR hcc20.1 m_QR_86 (r_Pg_add (jx_l X) D g A20 e20 S21 r17 r22 e22 S22  hc22) (sg_atk 11 rfl) rfl rfl rfl (Nat.le_of_ble_eq_true rfl) ⟨by first | omega | (dsimp only; omega), by first | omega | (dsimp only; omega)⟩ d_QR_readSum_75 (fun A22 hcb22 hst22 => ?_)
          have hcc22 : (e22.bc ≤ C0.bc ∧ e22.bs ≤ C0.bs) ∧ aS A0 A22 := ⟨hcb22, aS_tr hcc20.2 hst22⟩
          show jw X (C0.bc - e22.bc) (C0.bs - e22.bs) (wtL D g A22 e22 S22) [(2, .int (ii r21)), (5, .int (ii r18)), (4, .int (ii r17)), (0, .ref (g 10)), (1, .int (ii v1)), (3, .int (ii v3))] 78 []
          refine jr_iinc [(3, .int (ii (v3 + (-1)))), (2, .int (ii r21)), (5, .int (ii r18)), (4, .int (ii r17)), (0, .ref (g 10)), (1, .int (ii v1))] 5 ok d_QR_readSum_78 rfl (by rw [hN]; decide) rfl ?_
          refine jr_goto 14 ok d_QR_readSum_81 (by decide) ?_
          exact jr_lv [4, 5, 1, 0] rfl (ih14 A22 e22 v1 r21 (v3 + (-1)) S22 hcc22 hs)
  refine jr_widen (cs' := C0.bc - C0.bc) (sl' := C0.bs - C0.bs) (Nat.zero_le _) (Nat.zero_le _) ?_
  show jw X (C0.bc - C0.bc) (C0.bs - C0.bs) (wtL D g A0 C0 S) [(0, .ref (g 10)), (1, .int (ii v1))] 0 []
  rw [s_QR_readSum] at hs
  refine jr_aload_n ok 0 d_QR_readSum_0 rfl rfl ?_
  refine jr_iload_n ok 1 d_QR_readSum_1 rfl rfl ?_
  obtain ⟨r23, e23, S23, hc23, hs⟩ := mb3_some hs
  refine jh_gV1 (Lo := fun A => wtL D g A e23 S23) ok hI hR hcc.1 m_QR_70 (r_QR_readProduct (jx_l X) oS oF fr lo hoS hoF D g A0 C0 S v1 r23 e23 S23  hc23) (sg_atk 13 rfl) rfl rfl rfl (Nat.le_of_ble_eq_true rfl) ⟨by first | omega | (dsimp only; omega), by first | omega | (dsimp only; omega)⟩ d_QR_readSum_2 (fun A23 hcb23 hst23 => ?_)
  have hcc23 : (e23.bc ≤ C0.bc ∧ e23.bs ≤ C0.bs) ∧ aS A0 A23 := ⟨hcb23, aS_tr hcc.2 hst23⟩
  show jw X (C0.bc - e23.bc) (C0.bs - e23.bs) (wtL D g A23 e23 S23) [(0, .ref (g 10)), (1, .int (ii v1))] 5 [.int (ii r23)]
  refine jr_istore_n [(2, .int (ii r23)), (0, .ref (g 10)), (1, .int (ii v1))] ok d_QR_readSum_5 rfl (by rw [hN]; decide) rfl ?_
  refine jr_aload_n ok 1 d_QR_readSum_6 rfl rfl ?_
  refine jr_get (v := .ref (g 1)) ok 13 f_QR_9 rfl rfl d_QR_readSum_7 ?_
  obtain ⟨r24, S24, hc24, hs⟩ := mb2_some hs
  refine jq_cV1 ok hR m_QR_73 (r_Tp_size (jx_l X) D g A23 e23 S23  r24 S24  hc24) (sg_atk 1 rfl) rfl rfl rfl (Nat.le_of_ble_eq_true rfl) ⟨by first | omega | (dsimp only; omega), by first | omega | (dsimp only; omega)⟩ ⟨Nat.sub_le _ _, Nat.sub_le _ _⟩ d_QR_readSum_10 ?_
  show jw X (C0.bc - e23.bc) (C0.bs - e23.bs) (wtL D g A23 e23 S24) [(2, .int (ii r23)), (0, .ref (g 10)), (1, .int (ii v1))] 13 [.int (ii r24)]
  refine jr_istore_n [(3, .int (ii r24)), (2, .int (ii r23)), (0, .ref (g 10)), (1, .int (ii v1))] ok d_QR_readSum_13 rfl (by rw [hN]; decide) rfl ?_
  exact jr_lv [2, 3, 1, 0] rfl (B_14 fU A23 e23 v1 r23 r24 S24 hcc23 hs)

set_option maxHeartbeats 4000000 in
set_option maxRecDepth 100000 in
theorem r_QR_readFactorW (l : Launch) (oS oF : CW → WS → Int → Option (Int × CW × WS)) (fr lo : Nat) (hoS : jO l y_QR_readSum b_QR_readSum 6 fr lo oS) (hoF : jO l y_QR_readFactor b_QR_readFactor 4 fr lo oF) (D : jd_T) (g : Nat → Nat) (A0 : AW) (C0 : CW) (S : WS) (v1 : Int) (r : Int) (c9 : CW) (S9 : WS)  (hs : s_QR_readFactor oS oF C0 S v1 = some (r, c9, S9)) : jgI_C l D y_QR_readFactor b_QR_readFactor 4 (some .int) { frames := fr + 8, cells := C0.bc, slots := C0.bs, locals := lo + 200 } [.ref (g 10), .int (ii v1)] (wtL D g A0 C0 S) (fun A : AW => (.returned (some (.int (ii r))), (c9.bc ≤ C0.bc ∧ c9.bs ≤ C0.bs) ∧ aS A0 A, wtL D g A c9 S9, C0.bc - c9.bc, C0.bs - c9.bs)) := by
  refine jgI_of rfl (Nat.le_of_ble_eq_true rfl) ?_
  intro X hl hR hN ok hI hnm fin
  subst hl
  have hcc : (C0.bc ≤ C0.bc ∧ C0.bs ≤ C0.bs) ∧ aS A0 A0 := ⟨⟨Nat.le_refl _, Nat.le_refl _⟩, fun _ _ _ => rfl⟩
  have B_50 : ∀ (A : AW) (c : CW) (v1 : Int) (v2 : Int) (S : WS), (c.bc ≤ C0.bc ∧ c.bs ≤ C0.bs) ∧ aS A0 A → q_QR_readFactor_50 oS oF  c v1 v2 S = some (r, c9, S9) → jw X (C0.bc - c.bc) (C0.bs - c.bs) (wtL D g A c S) [(0, .ref (g 10)), (1, .int (ii v1)), (2, .int (ii v2))] 50 [] := by
    intro A c v1 v2 S hcc hs
    rw [q_QR_readFactor_50] at hs
    refine jr_aload_n ok 0 d_QR_readFactor_50 rfl rfl ?_
    refine jr_iload_n ok 2 d_QR_readFactor_51 rfl rfl ?_
    refine jr_iload_n ok 1 d_QR_readFactor_52 rfl rfl ?_
    obtain ⟨r13, e13, S13, hc13, hs⟩ := mb3_some hs
    refine jh_gV1 (Lo := fun A => wtL D g A e13 S13) ok hI hR hcc.1 m_QR_125 (r_QR_readOpened (jx_l X) oS oF fr lo hoS hoF D g A c S v2 v1 r13 e13 S13  hc13) (sg_atk 13 rfl) rfl rfl rfl (Nat.le_of_ble_eq_true rfl) ⟨by first | omega | (dsimp only; omega), by first | omega | (dsimp only; omega)⟩ d_QR_readFactor_53 (fun A13 hcb13 hst13 => ?_)
    have hcc13 : (e13.bc ≤ C0.bc ∧ e13.bs ≤ C0.bs) ∧ aS A0 A13 := ⟨hcb13, aS_tr hcc.2 hst13⟩
    show jw X (C0.bc - e13.bc) (C0.bs - e13.bs) (wtL D g A13 e13 S13) [(0, .ref (g 10)), (1, .int (ii v1)), (2, .int (ii v2))] 56 [.int (ii r13)]
    exact jh_iret (ψ := aS A0) (Lf := wtL D g) (bc := CW.bc) (bs := CW.bs) A13 ok fin hcc13 hs d_QR_readFactor_56
  refine jr_widen (cs' := C0.bc - C0.bc) (sl' := C0.bs - C0.bs) (Nat.zero_le _) (Nat.zero_le _) ?_
  show jw X (C0.bc - C0.bc) (C0.bs - C0.bs) (wtL D g A0 C0 S) [(0, .ref (g 10)), (1, .int (ii v1))] 0 []
  rw [s_QR_readFactor] at hs
  refine jr_aload_n ok 0 d_QR_readFactor_0 rfl rfl ?_
  refine jr_get (v := .ref (g 11)) ok 13 f_QR_24 rfl rfl d_QR_readFactor_1 ?_
  obtain ⟨r14, S14, hc14, hs⟩ := mb2_some hs
  refine jq_cV1 ok hR m_QR_53 (r_Lx_kind (jx_l X) D g A0 C0 S  r14 S14  hc14) (sg_atk 14 rfl) rfl rfl rfl (Nat.le_of_ble_eq_true rfl) ⟨by first | omega | (dsimp only; omega), by first | omega | (dsimp only; omega)⟩ ⟨Nat.sub_le _ _, Nat.sub_le _ _⟩ d_QR_readFactor_4 ?_
  show jw X (C0.bc - C0.bc) (C0.bs - C0.bs) (wtL D g A0 C0 S14) [(0, .ref (g 10)), (1, .int (ii v1))] 7 [.int (ii r14)]
  refine jr_istore_n [(2, .int (ii r14)), (0, .ref (g 10)), (1, .int (ii v1))] ok d_QR_readFactor_7 rfl (by rw [hN]; decide) rfl ?_
  refine jr_iload_n ok 0 d_QR_readFactor_8 rfl rfl ?_
  refine jr_sipush ok d_QR_readFactor_9 (by decide +kernel) ?_
  refine jr_wicmp_ne 38 ok rfl (show w32 302 = 302 by decide) d_QR_readFactor_12 (by decide) (fun c15 => ?_) (fun c15 => ?_)
  · replace hs := oq_neg c15 hs
    refine jr_iload_n ok 0 d_QR_readFactor_38 rfl rfl ?_
    refine jr_bipush ok d_QR_readFactor_39 (by decide +kernel) ?_
    refine jr_wicmp_eq 50 ok rfl (show w32 40 = 40 by decide) d_QR_readFactor_41 (by decide) (fun c16 => ?_) (fun c16 => ?_)
    · replace hs := oq_pos c16 hs
      exact jr_lv [1, 2, 0] rfl (B_50 A0 C0 v1 r14 S14 hcc hs)
    · replace hs := oq_neg c16 hs
      refine jr_iload_n ok 0 d_QR_readFactor_44 rfl rfl ?_
      refine jr_bipush ok d_QR_readFactor_45 (by decide +kernel) ?_
      refine jr_wicmp_ne 57 ok rfl (show w32 45 = 45 by decide) d_QR_readFactor_47 (by decide) (fun c17 => ?_) (fun c17 => ?_)
      · replace hs := oq_neg c17 hs
        refine jr_aload_n ok 1 d_QR_readFactor_57 rfl rfl ?_
        obtain ⟨r18, e18, S18, hc18, hs⟩ := mb3_some hs
        refine jh_gV1 (Lo := fun A => wtL D g A e18 S18) ok hI hR hcc.1 m_QR_128 (r_QR_funcKind (jx_l X) D g A0 C0 S14  r18 e18 S18  hc18) (sg_atk 13 rfl) rfl rfl rfl (Nat.le_of_ble_eq_true rfl) ⟨by first | omega | (dsimp only; omega), by first | omega | (dsimp only; omega)⟩ d_QR_readFactor_58 (fun A18 hcb18 hst18 => ?_)
        have hcc18 : (e18.bc ≤ C0.bc ∧ e18.bs ≤ C0.bs) ∧ aS A0 A18 := ⟨hcb18, aS_tr hcc.2 hst18⟩
        show jw X (C0.bc - e18.bc) (C0.bs - e18.bs) (wtL D g A18 e18 S18) [(2, .int (ii r14)), (0, .ref (g 10)), (1, .int (ii v1))] 61 [.int (ii r18)]
        refine jr_istore_n [(3, .int (ii r18)), (2, .int (ii r14)), (0, .ref (g 10)), (1, .int (ii v1))] ok d_QR_readFactor_61 rfl (by rw [hN]; decide) rfl ?_
        refine jr_iload_n ok 0 d_QR_readFactor_62 rfl rfl ?_
        refine jr_iconst ok d_QR_readFactor_63 ?_
        refine jr_wicmp_eq 73 ok rfl (show w32 (-1) = (-1) by decide) d_QR_readFactor_64 (by decide) (fun c19 => ?_) (fun c19 => ?_)
        · replace hs := oq_pos c19 hs
          refine jr_aload_n ok 2 d_QR_readFactor_73 rfl rfl ?_
          refine jr_iconst ok d_QR_readFactor_74 ?_
          obtain ⟨r20, S20, hc20, hs⟩ := mb2_some hs
          refine jq_cV0 ok hR m_QR_57 (r_QR_refuse (jx_l X) D g A18 e18 S18 2 r20 S20  hc20) (sg_atk 13 rfl) rfl rfl rfl (Nat.le_of_ble_eq_true rfl) ⟨by first | omega | (dsimp only; omega), by first | omega | (dsimp only; omega)⟩ ⟨Nat.sub_le _ _, Nat.sub_le _ _⟩ d_QR_readFactor_75 ?_
          show jw X (C0.bc - e18.bc) (C0.bs - e18.bs) (wtL D g A18 e18 S20) [(3, .int (ii r18)), (2, .int (ii r14)), (0, .ref (g 10)), (1, .int (ii v1))] 78 []
          refine jr_iconst ok d_QR_readFactor_78 ?_
          exact jh_iret (ψ := aS A0) (Lf := wtL D g) (bc := CW.bc) (bs := CW.bs) A18 ok fin hcc18 hs d_QR_readFactor_79
        · replace hs := oq_neg c19 hs
          refine jr_aload_n ok 2 d_QR_readFactor_67 rfl rfl ?_
          refine jr_iload_n ok 0 d_QR_readFactor_68 rfl rfl ?_
          obtain ⟨r21, e21, S21, hc21, hs⟩ := mb3_some hs
          refine jh_gV1 (Lo := fun A => wtL D g A e21 S21) ok hI hR hcc18.1 m_QR_131 (r_QR_readFunc (jx_l X) D g A18 e18 S18 r18 r21 e21 S21  hc21) (sg_atk 13 rfl) rfl rfl rfl (Nat.le_of_ble_eq_true rfl) ⟨by first | omega | (dsimp only; omega), by first | omega | (dsimp only; omega)⟩ d_QR_readFactor_69 (fun A21 hcb21 hst21 => ?_)
          have hcc21 : (e21.bc ≤ C0.bc ∧ e21.bs ≤ C0.bs) ∧ aS A0 A21 := ⟨hcb21, aS_tr hcc18.2 hst21⟩
          show jw X (C0.bc - e21.bc) (C0.bs - e21.bs) (wtL D g A21 e21 S21) [(3, .int (ii r18)), (2, .int (ii r14)), (0, .ref (g 10)), (1, .int (ii v1))] 72 [.int (ii r21)]
          exact jh_iret (ψ := aS A0) (Lf := wtL D g) (bc := CW.bc) (bs := CW.bs) A21 ok fin hcc21 hs d_QR_readFactor_72
      · replace hs := oq_pos c17 hs
        exact jr_lv [1, 2, 0] rfl (B_50 A0 C0 v1 r14 S14 hcc hs)
  · replace hs := oq_pos c15 hs
    refine jr_aload_n ok 1 d_QR_readFactor_15 rfl rfl ?_
    refine jr_get (v := .ref (g 9)) ok 13 f_QR_15 rfl rfl d_QR_readFactor_16 ?_
    refine jr_aload_n ok 1 d_QR_readFactor_19 rfl rfl ?_
    refine jr_get (v := .ref (g 11)) ok 13 f_QR_24 rfl rfl d_QR_readFactor_20 ?_
    obtain ⟨r22, S22, hc22, hs⟩ := mb2_some hs
    refine jq_cV1 ok hR m_QR_117 (r_Lx_number (jx_l X) D g A0 C0 S14  r22 S22  hc22) (sg_atk 14 rfl) rfl rfl rfl (Nat.le_of_ble_eq_true rfl) ⟨by first | omega | (dsimp only; omega), by first | omega | (dsimp only; omega)⟩ ⟨Nat.sub_le _ _, Nat.sub_le _ _⟩ d_QR_readFactor_23 ?_
    show jw X (C0.bc - C0.bc) (C0.bs - C0.bs) (wtL D g A0 C0 S22) [(2, .int (ii r14)), (0, .ref (g 10)), (1, .int (ii v1))] 26 [.long r22, .ref (g 9)]
    obtain ⟨r23, e23, S23, hc23, hs⟩ := mb3_some hs
    refine jh_gV0 (Lo := fun A => wtL D g A e23 S23) ok hI hR hcc.1 m_QR_121 (r_Pg_addNumber (jx_l X) D g A0 C0 S22 r22 r23 e23 S23  hc23) (sg_atk 11 rfl) rfl rfl rfl (Nat.le_of_ble_eq_true rfl) ⟨by first | omega | (dsimp only; omega), by first | omega | (dsimp only; omega)⟩ d_QR_readFactor_26 (fun A23 hcb23 hst23 => ?_)
    have hcc23 : (e23.bc ≤ C0.bc ∧ e23.bs ≤ C0.bs) ∧ aS A0 A23 := ⟨hcb23, aS_tr hcc.2 hst23⟩
    show jw X (C0.bc - e23.bc) (C0.bs - e23.bs) (wtL D g A23 e23 S23) [(2, .int (ii r14)), (0, .ref (g 10)), (1, .int (ii v1))] 29 []
    refine jr_aload_n ok 1 d_QR_readFactor_29 rfl rfl ?_
    refine jr_get (v := .ref (g 11)) ok 13 f_QR_24 rfl rfl d_QR_readFactor_30 ?_
    obtain ⟨r24, S24, hc24, hs⟩ := mb2_some hs
    refine jq_cV0 ok hR m_QR_67 (r_Lx_advance (jx_l X) D g A23 e23 S23  r24 S24  hc24) (sg_atk 14 rfl) rfl rfl rfl (Nat.le_of_ble_eq_true rfl) ⟨by first | omega | (dsimp only; omega), by first | omega | (dsimp only; omega)⟩ ⟨Nat.sub_le _ _, Nat.sub_le _ _⟩ d_QR_readFactor_33 ?_
    show jw X (C0.bc - e23.bc) (C0.bs - e23.bs) (wtL D g A23 e23 S24) [(2, .int (ii r14)), (0, .ref (g 10)), (1, .int (ii v1))] 36 []
    refine jr_iconst ok d_QR_readFactor_36 ?_
    exact jh_iret (ψ := aS A0) (Lf := wtL D g) (bc := CW.bc) (bs := CW.bs) A23 ok fin hcc23 hs d_QR_readFactor_37

def rdO : Nat → (CW → WS → Int → Option (Int × CW × WS)) × (CW → WS → Int → Option (Int × CW × WS))
  | 0 => (fun _ _ _ => none, fun _ _ _ => none)
  | n + 1 => (fun c S v => s_QR_readSum (rdO n).1 (rdO n).2 c S v, fun c S v => s_QR_readFactor (rdO n).1 (rdO n).2 c S v)
theorem r_rdO (l : Launch) : ∀ n : Nat, jO l y_QR_readSum b_QR_readSum 6 (8 * n) (200 * n) (rdO n).1 ∧ jO l y_QR_readFactor b_QR_readFactor 4 (8 * n) (200 * n) (rdO n).2
  | 0 => ⟨fun D g A0 C0 S v1 r c9 S9 h => (by cases h), fun D g A0 C0 S v1 r c9 S9 h => (by cases h)⟩
  | n + 1 => by
    obtain ⟨h1, h2⟩ := r_rdO l n
    refine ⟨fun D g A0 C0 S v1 r c9 S9 h => ?_, fun D g A0 C0 S v1 r c9 S9 h => ?_⟩
    · exact r_QR_readSum l (rdO n).1 (rdO n).2 (8 * n) (200 * n) h1 h2 D g A0 C0 S v1 r c9 S9 h
    · exact r_QR_readFactorW l (rdO n).1 (rdO n).2 (8 * n) (200 * n) h1 h2 D g A0 C0 S v1 r c9 S9 h
def q_QR_read_84 (c : CW)  (S : WS) : Option (Int × CW × WS) := if w32 S.qr_faultCode = 0 then some (1, c, S) else some (0, c, S)

def q_QR_read_56 (c : CW)  (S : WS) : Option (Int × CW × WS) := if w32 S.qr_faultCode = 0 then if w32 S.qr_clashPlace = (-1) then q_QR_read_84 c S else q_QR_read_84 c (WS.w_qr_faultPlace (WS.w_qr_faultCode S 5) S.qr_clashPlace) else q_QR_read_84 c S

def s_QR_read (C0 : CW) (S : WS)  : Option (Int × CW × WS) := mb2 (s_Pg_clear C0 S ) (fun r13 S13 => mb2 (s_Lx_start C0 (WS.w_qr_clashPlace (WS.w_qr_faultPlace (WS.w_qr_faultCode S13 0) 0) (-1)) ) (fun r14 S14 => mb3 ((rdO 10).1 C0 S14 0) (fun r15 e15 S15 => mb2 (s_Lx_kind e15 (WS.w_qr_naming S15 r15) ) (fun r16 S16 => if w32 r16 = 301 then q_QR_read_56 e15 S16 else mb2 (s_QR_refuse e15 S16 2) (fun r18 S18 => q_QR_read_56 e15 S18)))))
set_option maxHeartbeats 4000000 in
set_option maxRecDepth 100000 in
theorem r_QR_read (l : Launch) (D : jd_T) (g : Nat → Nat) (A0 : AW) (C0 : CW) (S : WS)  (r : Int) (c9 : CW) (S9 : WS)  (hs : s_QR_read C0 S  = some (r, c9, S9)) : jgI_C l D y_QR_read b_QR_read 1 (some .boolean) { frames := 81, cells := C0.bc, slots := C0.bs, locals := 2025 } [.ref (g 10)] (wtL D g A0 C0 S) (fun A : AW => (.returned (some (.int (ii r))), (c9.bc ≤ C0.bc ∧ c9.bs ≤ C0.bs) ∧ aS A0 A, wtL D g A c9 S9, C0.bc - c9.bc, C0.bs - c9.bs)) := by
  refine jgI_of rfl (Nat.le_of_ble_eq_true rfl) ?_
  intro X hl hR hN ok hI hnm fin
  subst hl
  have hcc : (C0.bc ≤ C0.bc ∧ C0.bs ≤ C0.bs) ∧ aS A0 A0 := ⟨⟨Nat.le_refl _, Nat.le_refl _⟩, fun _ _ _ => rfl⟩
  have B_84 : ∀ (A : AW) (c : CW) (S : WS), (c.bc ≤ C0.bc ∧ c.bs ≤ C0.bs) ∧ aS A0 A → q_QR_read_84 c S = some (r, c9, S9) → jw X (C0.bc - c.bc) (C0.bs - c.bs) (wtL D g A c S) [(0, .ref (g 10))] 84 [] := by
    intro A c S hcc hs
    rw [q_QR_read_84] at hs
    refine jr_aload_n ok 0 d_QR_read_84 rfl rfl ?_
    refine jr_get (v := .int (ii S.qr_faultCode)) ok 13 f_QR_28 rfl rfl d_QR_read_85 ?_
    refine jr_wif_ne 95 ok rfl d_QR_read_88 (by decide) (fun c12 => ?_) (fun c12 => ?_)
    · replace hs := oq_neg c12 hs
      refine jr_iconst ok d_QR_read_95 ?_
      exact jh_zret (ψ := aS A0) (Lf := wtL D g) (bc := CW.bc) (bs := CW.bs) A ok (by decide +kernel) fin hcc hs d_QR_read_96
    · replace hs := oq_pos c12 hs
      refine jr_iconst ok d_QR_read_91 ?_
      refine jr_goto 96 ok d_QR_read_92 (by decide) ?_
      exact jh_zret (ψ := aS A0) (Lf := wtL D g) (bc := CW.bc) (bs := CW.bs) A ok (by decide +kernel) fin hcc hs d_QR_read_96
  have B_56 : ∀ (A : AW) (c : CW) (S : WS), (c.bc ≤ C0.bc ∧ c.bs ≤ C0.bs) ∧ aS A0 A → q_QR_read_56 c S = some (r, c9, S9) → jw X (C0.bc - c.bc) (C0.bs - c.bs) (wtL D g A c S) [(0, .ref (g 10))] 56 [] := by
    intro A c S hcc hs
    rw [q_QR_read_56] at hs
    refine jr_aload_n ok 0 d_QR_read_56 rfl rfl ?_
    refine jr_get (v := .int (ii S.qr_faultCode)) ok 13 f_QR_28 rfl rfl d_QR_read_57 ?_
    refine jr_wif_ne 84 ok rfl d_QR_read_60 (by decide) (fun c10 => ?_) (fun c10 => ?_)
    · replace hs := oq_neg c10 hs
      exact jr_lv [0] rfl (B_84 A c S hcc hs)
    · replace hs := oq_pos c10 hs
      refine jr_aload_n ok 0 d_QR_read_63 rfl rfl ?_
      refine jr_get (v := .int (ii S.qr_clashPlace)) ok 13 f_QR_43 rfl rfl d_QR_read_64 ?_
      refine jr_iconst ok d_QR_read_67 ?_
      refine jr_wicmp_eq 84 ok rfl (show w32 (-1) = (-1) by decide) d_QR_read_68 (by decide) (fun c11 => ?_) (fun c11 => ?_)
      · replace hs := oq_pos c11 hs
        exact jr_lv [0] rfl (B_84 A c S hcc hs)
      · replace hs := oq_neg c11 hs
        refine jr_aload_n ok 0 d_QR_read_71 rfl rfl ?_
        refine jr_iconst ok d_QR_read_72 ?_
        refine jr_put (wtL D g A c (WS.w_qr_faultCode S 5)) ok 13 f_QR_28 rfl rfl rfl (Nat.le_of_ble_eq_true rfl) rfl d_QR_read_73 ?_
        refine jr_aload_n ok 0 d_QR_read_76 rfl rfl ?_
        refine jr_aload_n ok 0 d_QR_read_77 rfl rfl ?_
        refine jr_get (v := .int (ii S.qr_clashPlace)) ok 13 f_QR_43 rfl rfl d_QR_read_78 ?_
        refine jr_put (wtL D g A c (WS.w_qr_faultPlace (WS.w_qr_faultCode S 5) S.qr_clashPlace)) ok 13 f_QR_32 rfl rfl rfl (Nat.le_of_ble_eq_true rfl) rfl d_QR_read_81 ?_
        exact jr_lv [0] rfl (B_84 A c (WS.w_qr_faultPlace (WS.w_qr_faultCode S 5) S.qr_clashPlace) hcc hs)
  refine jr_widen (cs' := C0.bc - C0.bc) (sl' := C0.bs - C0.bs) (Nat.zero_le _) (Nat.zero_le _) ?_
  show jw X (C0.bc - C0.bc) (C0.bs - C0.bs) (wtL D g A0 C0 S) [(0, .ref (g 10))] 0 []
  rw [s_QR_read] at hs
  refine jr_aload_n ok 0 d_QR_read_0 rfl rfl ?_
  refine jr_get (v := .ref (g 9)) ok 13 f_QR_15 rfl rfl d_QR_read_1 ?_
  obtain ⟨r13, S13, hc13, hs⟩ := mb2_some hs
  refine jq_cV0 ok hR m_QR_38 (r_Pg_clear (jx_l X) D g A0 C0 S  r13 S13  hc13) (sg_atk 11 rfl) rfl rfl rfl (Nat.le_of_ble_eq_true rfl) ⟨Nat.le_of_ble_eq_true rfl, Nat.le_of_ble_eq_true rfl⟩ ⟨Nat.sub_le _ _, Nat.sub_le _ _⟩ d_QR_read_4 ?_
  show jw X (C0.bc - C0.bc) (C0.bs - C0.bs) (wtL D g A0 C0 S13) [(0, .ref (g 10))] 7 []
  refine jr_aload_n ok 0 d_QR_read_7 rfl rfl ?_
  refine jr_iconst ok d_QR_read_8 ?_
  refine jr_put (wtL D g A0 C0 (WS.w_qr_faultCode S13 0)) ok 13 f_QR_28 rfl rfl rfl (Nat.le_of_ble_eq_true rfl) rfl d_QR_read_9 ?_
  refine jr_aload_n ok 0 d_QR_read_12 rfl rfl ?_
  refine jr_iconst ok d_QR_read_13 ?_
  refine jr_put (wtL D g A0 C0 (WS.w_qr_faultPlace (WS.w_qr_faultCode S13 0) 0)) ok 13 f_QR_32 rfl rfl rfl (Nat.le_of_ble_eq_true rfl) rfl d_QR_read_14 ?_
  refine jr_aload_n ok 0 d_QR_read_17 rfl rfl ?_
  refine jr_iconst ok d_QR_read_18 ?_
  refine jr_put (wtL D g A0 C0 (WS.w_qr_clashPlace (WS.w_qr_faultPlace (WS.w_qr_faultCode S13 0) 0) (-1))) ok 13 f_QR_43 rfl rfl rfl (Nat.le_of_ble_eq_true rfl) rfl d_QR_read_19 ?_
  refine jr_aload_n ok 0 d_QR_read_22 rfl rfl ?_
  refine jr_get (v := .ref (g 11)) ok 13 f_QR_24 rfl rfl d_QR_read_23 ?_
  obtain ⟨r14, S14, hc14, hs⟩ := mb2_some hs
  refine jq_cV0 ok hR m_QR_46 (r_Lx_start (jx_l X) D g A0 C0 (WS.w_qr_clashPlace (WS.w_qr_faultPlace (WS.w_qr_faultCode S13 0) 0) (-1))  r14 S14  hc14) (sg_atk 14 rfl) rfl rfl rfl (Nat.le_of_ble_eq_true rfl) ⟨Nat.le_of_ble_eq_true rfl, Nat.le_of_ble_eq_true rfl⟩ ⟨Nat.sub_le _ _, Nat.sub_le _ _⟩ d_QR_read_26 ?_
  show jw X (C0.bc - C0.bc) (C0.bs - C0.bs) (wtL D g A0 C0 S14) [(0, .ref (g 10))] 29 []
  refine jr_aload_n ok 0 d_QR_read_29 rfl rfl ?_
  refine jr_aload_n ok 0 d_QR_read_30 rfl rfl ?_
  refine jr_iconst ok d_QR_read_31 ?_
  obtain ⟨r15, e15, S15, hc15, hs⟩ := mb3_some hs
  refine jh_gV1 (Lo := fun A => wtL D g A e15 S15) ok hI hR hcc.1 m_QR_49 ((r_rdO (jx_l X) 10).1 D g A0 C0 S14 0 r15 e15 S15  hc15) (sg_atk 13 rfl) rfl rfl rfl (Nat.le_of_ble_eq_true rfl) ⟨Nat.le_of_ble_eq_true rfl, Nat.le_of_ble_eq_true rfl⟩ d_QR_read_32 (fun A15 hcb15 hst15 => ?_)
  have hcc15 : (e15.bc ≤ C0.bc ∧ e15.bs ≤ C0.bs) ∧ aS A0 A15 := ⟨hcb15, aS_tr hcc.2 hst15⟩
  show jw X (C0.bc - e15.bc) (C0.bs - e15.bs) (wtL D g A15 e15 S15) [(0, .ref (g 10))] 35 [.int (ii r15), .ref (g 10)]
  refine jr_put (wtL D g A15 e15 (WS.w_qr_naming S15 r15)) ok 13 f_QR_35 rfl rfl rfl (Nat.le_of_ble_eq_true rfl) rfl d_QR_read_35 ?_
  refine jr_aload_n ok 0 d_QR_read_38 rfl rfl ?_
  refine jr_get (v := .ref (g 11)) ok 13 f_QR_24 rfl rfl d_QR_read_39 ?_
  obtain ⟨r16, S16, hc16, hs⟩ := mb2_some hs
  refine jq_cV1 ok hR m_QR_53 (r_Lx_kind (jx_l X) D g A15 e15 (WS.w_qr_naming S15 r15)  r16 S16  hc16) (sg_atk 14 rfl) rfl rfl rfl (Nat.le_of_ble_eq_true rfl) ⟨Nat.le_of_ble_eq_true rfl, Nat.le_of_ble_eq_true rfl⟩ ⟨Nat.sub_le _ _, Nat.sub_le _ _⟩ d_QR_read_42 ?_
  show jw X (C0.bc - e15.bc) (C0.bs - e15.bs) (wtL D g A15 e15 S16) [(0, .ref (g 10))] 45 [.int (ii r16)]
  refine jr_sipush ok d_QR_read_45 (by decide +kernel) ?_
  refine jr_wicmp_eq 56 ok rfl (show w32 301 = 301 by decide) d_QR_read_48 (by decide) (fun c17 => ?_) (fun c17 => ?_)
  · replace hs := oq_pos c17 hs
    exact jr_lv [0] rfl (B_56 A15 e15 S16 hcc15 hs)
  · replace hs := oq_neg c17 hs
    refine jr_aload_n ok 0 d_QR_read_51 rfl rfl ?_
    refine jr_iconst ok d_QR_read_52 ?_
    obtain ⟨r18, S18, hc18, hs⟩ := mb2_some hs
    refine jq_cV0 ok hR m_QR_57 (r_QR_refuse (jx_l X) D g A15 e15 S16 2 r18 S18  hc18) (sg_atk 13 rfl) rfl rfl rfl (Nat.le_of_ble_eq_true rfl) ⟨Nat.le_of_ble_eq_true rfl, Nat.le_of_ble_eq_true rfl⟩ ⟨Nat.sub_le _ _, Nat.sub_le _ _⟩ d_QR_read_53 ?_
    show jw X (C0.bc - e15.bc) (C0.bs - e15.bs) (wtL D g A15 e15 S18) [(0, .ref (g 10))] 56 []
    exact jr_lv [0] rfl (B_56 A15 e15 S18 hcc15 hs)
