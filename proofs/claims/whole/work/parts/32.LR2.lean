/-- two rows of bytes on the tape -/
def cmpT (g : Int → Int) (p p2 q q2 : Int) : Int := cmpR g p q (p2 - p) (q2 - q) (p2 - p).toNat 0
theorem cmpR_R (g : Int → Int) (p q la lb : Int) : ∀ (k : Nat) (i : Int), -1 ≤ cmpR g p q la lb k i ∧ cmpR g p q la lb k i ≤ 1
  | 0, _ => cmpI_R _ _
  | k + 1, i => by
    unfold cmpR
    split
    · split
      · exact cmpR_R g p q la lb k (i + 1)
      · exact cmpI_R _ _
    · exact cmpI_R _ _
theorem cmpT_R (g : Int → Int) (p p2 q q2 : Int) : -1 ≤ cmpT g p p2 q q2 ∧ cmpT g p p2 q q2 ≤ 1 := cmpR_R _ _ _ _ _ _ _
/-- the place of a name in the order: -1 if it is there -/
def pfR (g : Int → Int) (p s : Int) (NA SA : Int → Int) (n : Int) : Nat → Int → Int
  | 0, _ => n
  | k + 1, i => if cmpT g p s (NA i) (SA i) = 0 then -1 else if cmpT g p s (NA i) (SA i) < 0 then i else pfR g p s NA SA n k (i + 1)
theorem pfR_R (g : Int → Int) (p s : Int) (NA SA : Int → Int) {n : Int} (hn : 0 ≤ n) : ∀ (k : Nat) (i : Int), 0 ≤ i → i + k ≤ n → -1 ≤ pfR g p s NA SA n k i ∧ pfR g p s NA SA n k i ≤ n
  | 0, i, _, _ => by unfold pfR; omega
  | k + 1, i, h1, h2 => by
    unfold pfR
    split
    · omega
    · split
      · omega
      · exact pfR_R g p s NA SA hn k (i + 1) (by omega) (by omega)
def pFor (g : Int → Int) (p s : Int) (NA SA : Int → Int) (n : Int) : Int := if 6 ≤ n then -1 else pfR g p s NA SA n n.toNat 0
theorem pFor_R (g : Int → Int) (p s : Int) (NA SA : Int → Int) {n : Int} (hn : 0 ≤ n) : -1 ≤ pFor g p s NA SA n ∧ pFor g p s NA SA n ≤ n := by
  unfold pFor
  split
  · omega
  · exact pfR_R g p s NA SA hn n.toNat 0 (by omega) (by omega)
/-- bytes of the tape, laid behind one another -/
def cpR (g : Int → Int) : Nat → Int → (Int → Int) → Int → (Int → Int)
  | 0, _, F, _ => F
  | k + 1, s, F, l => cpR g k (s + 1) (fun j => if j = l then (sb (g s)) else F j) (l + 1)
def coF (i l : Int) (F : Int → Int) : Int → Int := if 0 < i then (fun j => if j = l then (sb 44) else F j) else F
def coL (i l : Int) : Int := if 0 < i then l + 1 else l
def coR (g NA VA : Int → Int) : Nat → Int → (Int → Int) → Int → (Int → Int) × Int
  | 0, _, F, l => (F, l)
  | k + 1, i, F, l => coR g NA VA k (i + 1) (cpR g (VA i - NA i).toNat (NA i) (coF i l F) (coL i l)) (coL i l + (VA i - NA i))

set_option maxHeartbeats 400000 in
set_option maxRecDepth 100000 in
/-- LabelReader.placeFor -/
theorem c_LR_placeFor (l : Launch) (D : jd_T) (a : Nat) (na : Nat) (sa : Nat) (va : Nat) (lb : Nat) (n : Int) (len : Int) (fc : Int) (fp : Int) (NA : Int → Int) (SA : Int → Int) (ta : Nat) (tb : Nat) (cap : Int) (tn : Int) (f : Int → Int) (p : Int) (s : Int) (hy0 : 0 ≤ n) (hy1 : n ≤ 6) (hy2 : ∀ j, 0 ≤ NA j ∧ NA j ≤ 100000) (hy3 : ∀ j, 0 ≤ SA j ∧ SA j ≤ 100000) (hy4 : 0 ≤ tn) (hy5 : tn ≤ cap) (hy6 : cap ≤ 1000000) (hy7 : 0 ≤ p ∧ p ≤ 100000) (hy8 : 0 ≤ s ∧ s ≤ 100000) : jc_C l D y_LR_placeFor b_LR_placeFor 6 (some .int) { frames := 2, cells := 0, slots := 0, locals := 49 } [.ref a, .ref ta, .int (ii p), .int (ii s)] [ob D a 4 [.ref na, .ref sa, .ref va, .int (ii n), .ref lb, .int (ii len), .int (ii fc), .int (ii fp)], ai D 0 na 6 NA, ai D 0 sa 6 SA, ob D ta 11 [.ref tb, .int (ii tn)], ai D 1 tb cap f] (fun _ : Unit => (.returned (some (.int (ii (pFor (bA f tn) p s NA SA n)))), -1 ≤ pFor (bA f tn) p s NA SA n ∧ pFor (bA f tn) p s NA SA n ≤ n, [ob D a 4 [.ref na, .ref sa, .ref va, .int (ii n), .ref lb, .int (ii len), .int (ii fc), .int (ii fp)], ai D 0 na 6 NA, ai D 0 sa 6 SA, ob D ta 11 [.ref tb, .int (ii tn)], ai D 1 tb cap f])) := by
  refine jc_of rfl (Nat.le_of_ble_eq_true rfl) ?_
  intro X hl hR hN ok hnm fin
  subst hl
  show jw X 0 0 [ob D a 4 [.ref na, .ref sa, .ref va, .int (ii n), .ref lb, .int (ii len), .int (ii fc), .int (ii fp)], ai D 0 na 6 NA, ai D 0 sa 6 SA, ob D ta 11 [.ref tb, .int (ii tn)], ai D 1 tb cap f] [(0, .ref a), (1, .ref ta), (2, .int (ii p)), (3, .int (ii s))] 0 []
  by_cases hn6 : 6 ≤ n
  · skip
    refine jr_aload_n ok 0 d_LR_placeFor_0 rfl rfl ?_
    refine jr_get ok 0 f_LR_35 rfl rfl d_LR_placeFor_1 ?_
    refine jr_bipush ok d_LR_placeFor_4 (by decide +kernel) ?_
    refine jr_icmp_lt 11 ok ⟨by omega, by omega⟩ ⟨by decide, by decide⟩ d_LR_placeFor_6 (by decide) (fun c1 => ?_) (fun c1 => ?_)
    · skip
      exfalso; omega
    · skip
      refine jr_iconst ok d_LR_placeFor_9 ?_
      exact jr_iret ok fin (Nat.le_refl _) (Nat.le_refl _) () (congrArg (fun z => Outcome.returned (some (Value.int (ii z)))) (show (pFor (bA f tn) p s NA SA n) = -1 from (by unfold pFor; rw [if_pos hn6]))) (pFor_R _ _ _ _ _ hy0) sg_same d_LR_placeFor_10
  have lp : ∀ (k : Nat) (i : Int), 0 ≤ i → i ≤ 2000000 → (n - i).toNat = k → pfR (bA f tn) p s NA SA n k i = pfR (bA f tn) p s NA SA n (n).toNat 0 → jw X 0 0 [ob D a 4 [.ref na, .ref sa, .ref va, .int (ii n), .ref lb, .int (ii len), .int (ii fc), .int (ii fp)], ai D 0 na 6 NA, ai D 0 sa 6 SA, ob D ta 11 [.ref tb, .int (ii tn)], ai D 1 tb cap f] [(4, .int (ii i)), (0, .ref a), (1, .ref ta), (2, .int (ii p)), (3, .int (ii s))] 14 [] := by
    intro k
    induction k with
    | zero =>
      intro i h1 h2 h4 h5
      refine jr_iload ok 0 d_LR_placeFor_14 rfl ?_
      refine jr_aload_n ok 1 d_LR_placeFor_16 rfl rfl ?_
      refine jr_get ok 0 f_LR_35 rfl rfl d_LR_placeFor_17 ?_
      refine jr_icmp_ge 66 ok ⟨by omega, by omega⟩ ⟨by omega, by omega⟩ d_LR_placeFor_20 (by decide) (fun c2 => ?_) (fun c2 => ?_)
      · skip
        refine jr_aload_n ok 1 d_LR_placeFor_66 rfl rfl ?_
        refine jr_get ok 0 f_LR_35 rfl rfl d_LR_placeFor_67 ?_
        exact jr_iret ok fin (Nat.le_refl _) (Nat.le_refl _) () (congrArg (fun z => Outcome.returned (some (Value.int (ii z)))) (show (pFor (bA f tn) p s NA SA n) = n from (by unfold pFor; rw [if_neg hn6]; exact h5.symm))) (pFor_R _ _ _ _ _ hy0) sg_same d_LR_placeFor_70
      · skip
        exfalso; omega
    | succ k ih =>
      intro i h1 h2 h4 h5
      refine jr_iload ok 0 d_LR_placeFor_14 rfl ?_
      refine jr_aload_n ok 1 d_LR_placeFor_16 rfl rfl ?_
      refine jr_get ok 0 f_LR_35 rfl rfl d_LR_placeFor_17 ?_
      refine jr_icmp_ge 66 ok ⟨by omega, by omega⟩ ⟨by omega, by omega⟩ d_LR_placeFor_20 (by decide) (fun c3 => ?_) (fun c3 => ?_)
      · skip
        exfalso; omega
      · skip
        have hni := hy2 i
        have hsi := hy3 i
        refine jr_aload_n ok 2 d_LR_placeFor_23 rfl rfl ?_
        refine jr_iload_n ok 3 d_LR_placeFor_24 rfl rfl ?_
        refine jr_iload_n ok 4 d_LR_placeFor_25 rfl rfl ?_
        refine jr_aload_n ok 1 d_LR_placeFor_26 rfl rfl ?_
        refine jr_get ok 0 f_LR_9 rfl rfl d_LR_placeFor_27 ?_
        refine jr_iload ok 0 d_LR_placeFor_30 rfl ?_
        refine jr_iald ok 1 rfl rfl (by omega) (by omega) d_LR_placeFor_32 ?_
        refine jr_aload_n ok 1 d_LR_placeFor_33 rfl rfl ?_
        refine jr_get ok 0 f_LR_15 rfl rfl d_LR_placeFor_34 ?_
        refine jr_iload ok 0 d_LR_placeFor_37 rfl ?_
        refine jr_iald ok 2 rfl rfl (by omega) (by omega) d_LR_placeFor_39 ?_
        refine jr_cV1 [3, 4] [0, 1, 2] [ob D ta 11 [.ref tb, .int (ii tn)], ai D 1 tb cap f, ob D a 4 [.ref na, .ref sa, .ref va, .int (ii n), .ref lb, .int (ii len), .int (ii fc), .int (ii fp)], ai D 0 na 6 NA, ai D 0 sa 6 SA] 0 0 ok hR m_LR_75 3 (c_Tp_compare (jx_l X) D ta tb cap tn f p s (NA i) (SA i) (by first | assumption | omega) (by first | assumption | omega) (by first | assumption | omega) (by first | assumption | omega) (by first | assumption | omega) (by first | assumption | omega) (by first | assumption | omega)) (List.isPerm_iff.mp rfl) rfl rfl rfl rfl rfl rfl rfl (Nat.le_of_ble_eq_true rfl) ⟨Nat.le_of_ble_eq_true rfl, Nat.le_of_ble_eq_true rfl⟩ rfl rfl ⟨Nat.le_of_ble_eq_true rfl, Nat.le_of_ble_eq_true rfl⟩ d_LR_placeFor_40 (fun _ => ?_)
        refine jr_istore [(5, .int (ii (cmpR (bA f tn) p (NA i) (s - p) ((SA i) - (NA i)) (s - p).toNat 0))), (4, .int (ii i)), (0, .ref a), (1, .ref ta), (2, .int (ii p)), (3, .int (ii s))] ok d_LR_placeFor_43 (by rw [hN]; decide) rfl ?_
        have hcr := cmpT_R (bA f tn) p s (NA i) (SA i)
        unfold cmpT at hcr
        refine jr_iload ok 0 d_LR_placeFor_45 rfl ?_
        refine jr_if_ne 52 ok ⟨by omega, by omega⟩ d_LR_placeFor_47 (by decide) (fun c5 => ?_) (fun c5 => ?_)
        · skip
          rw [pfR] at h5
          unfold cmpT at h5
          rw [if_neg c5] at h5
          refine jr_iload ok 0 d_LR_placeFor_52 rfl ?_
          refine jr_if_ge 60 ok ⟨by omega, by omega⟩ d_LR_placeFor_54 (by decide) (fun c6 => ?_) (fun c6 => ?_)
          · skip
            rw [if_neg (by omega)] at h5
            refine jr_iinc [(4, .int (ii (i + 1))), (5, .int (ii (cmpR (bA f tn) p (NA i) (s - p) ((SA i) - (NA i)) (s - p).toNat 0))), (0, .ref a), (1, .ref ta), (2, .int (ii p)), (3, .int (ii s))] 1 ok d_LR_placeFor_60 rfl (by rw [hN]; decide) rfl ?_
            refine jr_goto 14 ok d_LR_placeFor_63 (by decide) ?_
            refine jr_pick (L' := [ob D a 4 [.ref na, .ref sa, .ref va, .int (ii n), .ref lb, .int (ii len), .int (ii fc), .int (ii fp)], ai D 0 na 6 NA, ai D 0 sa 6 SA, ob D ta 11 [.ref tb, .int (ii tn)], ai D 1 tb cap f]) [2, 3, 4, 0, 1] (List.isPerm_iff.mp rfl) rfl ?_
            exact jr_lv [0, 2, 3, 4, 5] rfl (ih (i + 1) (by omega) (by omega) (by omega) h5)
          · skip
            rw [if_pos (by omega)] at h5
            refine jr_iload ok 1 d_LR_placeFor_57 rfl ?_
            exact jr_iret ok fin (Nat.le_refl _) (Nat.le_refl _) () (congrArg (fun z => Outcome.returned (some (Value.int (ii z)))) (show (pFor (bA f tn) p s NA SA n) = i from (by unfold pFor; rw [if_neg hn6]; exact h5.symm))) (pFor_R _ _ _ _ _ hy0) (sg_pick [2, 3, 4, 0, 1] (List.isPerm_iff.mp rfl) rfl) d_LR_placeFor_59
        · skip
          rw [pfR] at h5
          unfold cmpT at h5
          rw [if_pos c5] at h5
          refine jr_iconst ok d_LR_placeFor_50 ?_
          exact jr_iret ok fin (Nat.le_refl _) (Nat.le_refl _) () (congrArg (fun z => Outcome.returned (some (Value.int (ii z)))) (show (pFor (bA f tn) p s NA SA n) = -1 from (by unfold pFor; rw [if_neg hn6]; exact h5.symm))) (pFor_R _ _ _ _ _ hy0) (sg_pick [2, 3, 4, 0, 1] (List.isPerm_iff.mp rfl) rfl) d_LR_placeFor_51
  refine jr_aload_n ok 0 d_LR_placeFor_0 rfl rfl ?_
  refine jr_get ok 0 f_LR_35 rfl rfl d_LR_placeFor_1 ?_
  refine jr_bipush ok d_LR_placeFor_4 (by decide +kernel) ?_
  refine jr_icmp_lt 11 ok ⟨by omega, by omega⟩ ⟨by decide, by decide⟩ d_LR_placeFor_6 (by decide) (fun c7 => ?_) (fun c7 => ?_)
  · skip
    refine jr_iconst ok d_LR_placeFor_11 ?_
    refine jr_istore [(4, .int (ii 0)), (0, .ref a), (1, .ref ta), (2, .int (ii p)), (3, .int (ii s))] ok d_LR_placeFor_12 (by rw [hN]; decide) rfl ?_
    exact jr_lv [0, 1, 2, 3, 4] rfl (lp _ 0 (by omega) (by omega) (by rw [Int.sub_zero]) rfl)
  · skip
    exfalso; omega

set_option maxHeartbeats 400000 in
set_option maxRecDepth 100000 in
/-- LabelReader.compose -/
theorem c_LR_compose (l : Launch) (D : jd_T) (a : Nat) (na : Nat) (sa : Nat) (va : Nat) (lb : Nat) (n : Int) (len : Int) (fc : Int) (fp : Int) (NA : Int → Int) (VA : Int → Int) (Fi : Int → Int) (ta : Nat) (tb : Nat) (cap : Int) (tn : Int) (f : Int → Int) (hy0 : 0 ≤ n) (hy1 : n ≤ 6) (hy2 : ∀ j, 0 ≤ j → j < n → 0 ≤ NA j ∧ NA j ≤ VA j ∧ VA j ≤ NA j + 49 ∧ VA j ≤ 100000) (hy3 : 0 ≤ tn) (hy4 : tn ≤ cap) (hy5 : cap ≤ 1000000) : jc_C l D y_LR_compose b_LR_compose 4 none { frames := 1, cells := 0, slots := 0, locals := 21 } [.ref a, .ref ta] [ob D a 4 [.ref na, .ref sa, .ref va, .int (ii n), .ref lb, .int (ii len), .int (ii fc), .int (ii fp)], ai D 0 na 6 NA, ai D 0 va 6 VA, ai D 1 lb 300 Fi, ob D ta 11 [.ref tb, .int (ii tn)], ai D 1 tb cap f] (fun _ : Unit => (.returned (none), True, [ob D a 4 [.ref na, .ref sa, .ref va, .int (ii n), .ref lb, .int (ii ((coR (bA f tn) NA VA n.toNat 0 Fi 0).2)), .int (ii fc), .int (ii fp)], ai D 0 na 6 NA, ai D 0 va 6 VA, ai D 1 lb 300 ((coR (bA f tn) NA VA n.toNat 0 Fi 0).1), ob D ta 11 [.ref tb, .int (ii tn)], ai D 1 tb cap f])) := by
  refine jc_of rfl (Nat.le_of_ble_eq_true rfl) ?_
  intro X hl hR hN ok hnm fin
  subst hl
  show jw X 0 0 [ob D a 4 [.ref na, .ref sa, .ref va, .int (ii n), .ref lb, .int (ii len), .int (ii fc), .int (ii fp)], ai D 0 na 6 NA, ai D 0 va 6 VA, ai D 1 lb 300 Fi, ob D ta 11 [.ref tb, .int (ii tn)], ai D 1 tb cap f] [(0, .ref a), (1, .ref ta)] 0 []
  have inner : ∀ (k : Nat) (i s l : Int) (F : Int → Int), 0 ≤ i → i < n → 0 ≤ s → s ≤ VA i → VA i ≤ 100000 → 0 ≤ l → l + (VA i - s) ≤ 300 → (VA i - s).toNat = k → jw X 0 0 [ob D a 4 [.ref na, .ref sa, .ref va, .int (ii n), .ref lb, .int (ii (l + (VA i - s))), .int (ii fc), .int (ii fp)], ai D 0 na 6 NA, ai D 0 va 6 VA, ai D 1 lb 300 (cpR (bA f tn) k s F l), ob D ta 11 [.ref tb, .int (ii tn)], ai D 1 tb cap f] [(2, .int (ii i)), (0, .ref a), (1, .ref ta)] 57 [] → jw X 0 0 [ob D a 4 [.ref na, .ref sa, .ref va, .int (ii n), .ref lb, .int (ii l), .int (ii fc), .int (ii fp)], ai D 0 na 6 NA, ai D 0 va 6 VA, ai D 1 lb 300 F, ob D ta 11 [.ref tb, .int (ii tn)], ai D 1 tb cap f] [(3, .int (ii s)), (2, .int (ii i)), (0, .ref a), (1, .ref ta)] 32 [] := by
    intro k
    induction k with
    | zero =>
      intro i s l F h1 h2 h3 h4 h5 h6 h7 h8 hk
      have e9 : l + (VA i - s) = l := by omega
      rw [e9, cpR] at hk
      refine jr_iload_n ok 0 d_LR_compose_32 rfl rfl ?_
      refine jr_aload_n ok 2 d_LR_compose_33 rfl rfl ?_
      refine jr_get ok 0 f_LR_18 rfl rfl d_LR_compose_34 ?_
      refine jr_iload_n ok 1 d_LR_compose_37 rfl rfl ?_
      refine jr_iald ok 2 rfl rfl (by omega) (by omega) d_LR_compose_38 ?_
      refine jr_icmp_ge 57 ok ⟨by omega, by omega⟩ ⟨by omega, by omega⟩ d_LR_compose_39 (by decide) (fun c1 => ?_) (fun c1 => ?_)
      · skip
        exact jr_lv [1, 2, 3] rfl hk
      · skip
        exfalso; omega
    | succ k ih =>
      intro i s l F h1 h2 h3 h4 h5 h6 h7 h8 hk
      rw [cpR] at hk
      refine jr_iload_n ok 0 d_LR_compose_32 rfl rfl ?_
      refine jr_aload_n ok 2 d_LR_compose_33 rfl rfl ?_
      refine jr_get ok 0 f_LR_18 rfl rfl d_LR_compose_34 ?_
      refine jr_iload_n ok 1 d_LR_compose_37 rfl rfl ?_
      refine jr_iald ok 2 rfl rfl (by omega) (by omega) d_LR_compose_38 ?_
      refine jr_icmp_ge 57 ok ⟨by omega, by omega⟩ ⟨by omega, by omega⟩ d_LR_compose_39 (by decide) (fun c2 => ?_) (fun c2 => ?_)
      · skip
        exfalso; omega
      · skip
        refine jr_aload_n ok 2 d_LR_compose_42 rfl rfl ?_
        refine jr_aload_n ok 3 d_LR_compose_43 rfl rfl ?_
        refine jr_iload_n ok 0 d_LR_compose_44 rfl rfl ?_
        refine jr_cV1 [4, 5] [0, 1, 2, 3] [ob D ta 11 [.ref tb, .int (ii tn)], ai D 1 tb cap f, ob D a 4 [.ref na, .ref sa, .ref va, .int (ii n), .ref lb, .int (ii l), .int (ii fc), .int (ii fp)], ai D 0 na 6 NA, ai D 0 va 6 VA, ai D 1 lb 300 F] 0 0 ok hR m_LR_52 4 (c_Tp_byteAt (jx_l X) D ta tb cap tn f s (by first | assumption | omega) (by first | assumption | omega) (by first | assumption | omega) ⟨by omega, by omega⟩) (List.isPerm_iff.mp rfl) rfl rfl rfl rfl rfl rfl rfl (Nat.le_of_ble_eq_true rfl) ⟨Nat.le_of_ble_eq_true rfl, Nat.le_of_ble_eq_true rfl⟩ rfl rfl ⟨Nat.le_of_ble_eq_true rfl, Nat.le_of_ble_eq_true rfl⟩ d_LR_compose_45 (fun _ => ?_)
        have hf3_0 := bA_R f tn s
        refine jr_cV0 [2, 5] [0, 1, 3, 4] [ob D a 4 [.ref na, .ref sa, .ref va, .int (ii n), .ref lb, .int (ii (l + 1)), .int (ii fc), .int (ii fp)], ai D 1 lb 300 (fun j => if j = l then (sb (bA f tn s)) else F j), ob D ta 11 [.ref tb, .int (ii tn)], ai D 1 tb cap f, ai D 0 na 6 NA, ai D 0 va 6 VA] 0 0 ok hR m_LR_79 2 (c_LR_addLetter (jx_l X) D a na sa va lb n l fc fp F (bA f tn s) (by first | assumption | omega) (by first | assumption | omega)) (List.isPerm_iff.mp rfl) rfl rfl rfl rfl rfl rfl rfl (Nat.le_of_ble_eq_true rfl) ⟨Nat.le_of_ble_eq_true rfl, Nat.le_of_ble_eq_true rfl⟩ rfl rfl ⟨Nat.le_of_ble_eq_true rfl, Nat.le_of_ble_eq_true rfl⟩ d_LR_compose_48 (fun _ => ?_)
        refine jr_iinc [(3, .int (ii (s + 1))), (2, .int (ii i)), (0, .ref a), (1, .ref ta)] 0 ok d_LR_compose_51 rfl (by rw [hN]; decide) rfl ?_
        refine jr_goto 32 ok d_LR_compose_54 (by decide) ?_
        refine jr_pick (L' := [ob D a 4 [.ref na, .ref sa, .ref va, .int (ii n), .ref lb, .int (ii (l + 1)), .int (ii fc), .int (ii fp)], ai D 0 na 6 NA, ai D 0 va 6 VA, ai D 1 lb 300 (fun j => if j = l then (sb (bA f tn s)) else F j), ob D ta 11 [.ref tb, .int (ii tn)], ai D 1 tb cap f]) [0, 4, 5, 1, 2, 3] (List.isPerm_iff.mp rfl) rfl ?_
        refine jr_lv [0, 1, 2, 3] rfl (ih i (s + 1) (l + 1) _ h1 h2 (by omega) (by omega) h5 (by omega) (by omega) (by omega) ?_)
        rw [show l + 1 + (VA i - (s + 1)) = l + (VA i - s) from by omega]
        exact hk
  have outer : ∀ (k : Nat) (i l : Int) (F : Int → Int), 0 ≤ i → i ≤ n → 0 ≤ l → l ≤ 50 * i → (n - i).toNat = k → coR (bA f tn) NA VA k i F l = coR (bA f tn) NA VA n.toNat 0 Fi 0 → jw X 0 0 [ob D a 4 [.ref na, .ref sa, .ref va, .int (ii n), .ref lb, .int (ii l), .int (ii fc), .int (ii fp)], ai D 0 na 6 NA, ai D 0 va 6 VA, ai D 1 lb 300 F, ob D ta 11 [.ref tb, .int (ii tn)], ai D 1 tb cap f] [(2, .int (ii i)), (0, .ref a), (1, .ref ta)] 7 [] := by
    intro k
    induction k with
    | zero =>
      intro i l F h1 h2 h3 h4 h5 h6
      rw [coR] at h6
      refine jr_iload_n ok 0 d_LR_compose_7 rfl rfl ?_
      refine jr_aload_n ok 1 d_LR_compose_8 rfl rfl ?_
      refine jr_get ok 0 f_LR_35 rfl rfl d_LR_compose_9 ?_
      refine jr_icmp_ge 63 ok ⟨by omega, by omega⟩ ⟨by omega, by omega⟩ d_LR_compose_12 (by decide) (fun c5 => ?_) (fun c5 => ?_)
      · skip
        exact jr_vret ok fin (Nat.le_refl _) (Nat.le_refl _) () rfl trivial (fun h q => by rw [← h6]; exact q) d_LR_compose_63
      · skip
        exfalso; omega
    | succ k ih =>
      intro i l F h1 h2 h3 h4 h5 h6
      have hv := hy2 i h1 (by omega)
      refine jr_iload_n ok 0 d_LR_compose_7 rfl rfl ?_
      refine jr_aload_n ok 1 d_LR_compose_8 rfl rfl ?_
      refine jr_get ok 0 f_LR_35 rfl rfl d_LR_compose_9 ?_
      refine jr_icmp_ge 63 ok ⟨by omega, by omega⟩ ⟨by omega, by omega⟩ d_LR_compose_12 (by decide) (fun c6 => ?_) (fun c6 => ?_)
      · skip
        exfalso; omega
      · skip
        refine jr_iload_n ok 0 d_LR_compose_15 rfl rfl ?_
        refine jr_if_le 25 ok ⟨by omega, by omega⟩ d_LR_compose_16 (by decide) (fun c7 => ?_) (fun c7 => ?_)
        · skip
          refine jr_aload_n ok 1 d_LR_compose_25 rfl rfl ?_
          refine jr_get ok 0 f_LR_9 rfl rfl d_LR_compose_26 ?_
          refine jr_iload_n ok 0 d_LR_compose_29 rfl rfl ?_
          refine jr_iald ok 1 rfl rfl (by omega) (by omega) d_LR_compose_30 ?_
          refine jr_istore_n [(3, .int (ii (NA i))), (2, .int (ii i)), (0, .ref a), (1, .ref ta)] ok d_LR_compose_31 rfl (by rw [hN]; decide) rfl ?_
          rw [coR, show coF i l F = _ from if_neg (by omega), show coL i l = _ from if_neg (by omega)] at h6
          refine jr_lv [0, 1, 2, 3] rfl (inner _ i (NA i) (l) _ h1 (by omega) (by omega) (by omega) (by omega) (by omega) (by omega) rfl ?_)
          refine jr_iinc [(2, .int (ii (i + 1))), (0, .ref a), (1, .ref ta)] 0 ok d_LR_compose_57 rfl (by rw [hN]; decide) rfl ?_
          refine jr_goto 7 ok d_LR_compose_60 (by decide) ?_
          exact jr_lv [0, 1, 2] rfl (ih (i + 1) _ _ (by omega) (by omega) (by omega) (by omega) (by omega) h6)
        · skip
          refine jr_aload_n ok 1 d_LR_compose_19 rfl rfl ?_
          refine jr_bipush ok d_LR_compose_20 (by decide +kernel) ?_
          refine jr_cV0 [0, 3] [1, 2, 4, 5] [ob D a 4 [.ref na, .ref sa, .ref va, .int (ii n), .ref lb, .int (ii (l + 1)), .int (ii fc), .int (ii fp)], ai D 1 lb 300 (fun j => if j = l then (sb 44) else F j), ai D 0 na 6 NA, ai D 0 va 6 VA, ob D ta 11 [.ref tb, .int (ii tn)], ai D 1 tb cap f] 0 0 ok hR m_LR_79 0 (c_LR_addLetter (jx_l X) D a na sa va lb n l fc fp F 44 (by first | assumption | omega) (by first | assumption | omega)) (List.isPerm_iff.mp rfl) rfl rfl rfl rfl rfl rfl rfl (Nat.le_of_ble_eq_true rfl) ⟨Nat.le_of_ble_eq_true rfl, Nat.le_of_ble_eq_true rfl⟩ rfl rfl ⟨Nat.le_of_ble_eq_true rfl, Nat.le_of_ble_eq_true rfl⟩ d_LR_compose_22 (fun _ => ?_)
          refine jr_aload_n ok 1 d_LR_compose_25 rfl rfl ?_
          refine jr_get ok 0 f_LR_9 rfl rfl d_LR_compose_26 ?_
          refine jr_iload_n ok 0 d_LR_compose_29 rfl rfl ?_
          refine jr_iald ok 2 rfl rfl (by omega) (by omega) d_LR_compose_30 ?_
          refine jr_istore_n [(3, .int (ii (NA i))), (2, .int (ii i)), (0, .ref a), (1, .ref ta)] ok d_LR_compose_31 rfl (by rw [hN]; decide) rfl ?_
          refine jr_pick (L' := [ob D a 4 [.ref na, .ref sa, .ref va, .int (ii n), .ref lb, .int (ii (l + 1)), .int (ii fc), .int (ii fp)], ai D 0 na 6 NA, ai D 0 va 6 VA, ai D 1 lb 300 (fun j => if j = l then (sb 44) else F j), ob D ta 11 [.ref tb, .int (ii tn)], ai D 1 tb cap f]) [0, 2, 3, 1, 4, 5] (List.isPerm_iff.mp rfl) rfl ?_
          rw [coR, show coF i l F = _ from if_pos (by omega), show coL i l = _ from if_pos (by omega)] at h6
          refine jr_lv [0, 1, 2, 3] rfl (inner _ i (NA i) (l + 1) _ h1 (by omega) (by omega) (by omega) (by omega) (by omega) (by omega) rfl ?_)
          refine jr_iinc [(2, .int (ii (i + 1))), (0, .ref a), (1, .ref ta)] 0 ok d_LR_compose_57 rfl (by rw [hN]; decide) rfl ?_
          refine jr_goto 7 ok d_LR_compose_60 (by decide) ?_
          exact jr_lv [0, 1, 2] rfl (ih (i + 1) _ _ (by omega) (by omega) (by omega) (by omega) (by omega) h6)
  refine jr_aload_n ok 0 d_LR_compose_0 rfl rfl ?_
  refine jr_iconst ok d_LR_compose_1 ?_
  refine jr_put [ob D a 4 [.ref na, .ref sa, .ref va, .int (ii n), .ref lb, .int (ii 0), .int (ii fc), .int (ii fp)], ai D 0 na 6 NA, ai D 0 va 6 VA, ai D 1 lb 300 Fi, ob D ta 11 [.ref tb, .int (ii tn)], ai D 1 tb cap f] ok 0 f_LR_32 rfl rfl rfl (Nat.le_of_ble_eq_true rfl) rfl d_LR_compose_2 ?_
  refine jr_iconst ok d_LR_compose_5 ?_
  refine jr_istore_n [(2, .int (ii 0)), (0, .ref a), (1, .ref ta)] ok d_LR_compose_6 rfl (by rw [hN]; decide) rfl ?_
  exact jr_lv [0, 1, 2] rfl (outer _ 0 0 Fi (by omega) (by omega) (by omega) (by omega) (by rw [Int.sub_zero]) rfl)

