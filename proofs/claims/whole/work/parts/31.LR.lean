/-- a byte of a word -/
def wB (b : Int) : Int := if b < 33 ∨ 126 < b ∨ b = 34 ∨ b = 61 ∨ b = 44 ∨ b = 40 ∨ b = 41 ∨ b = 123 ∨ b = 125 then 0 else 1
theorem wB_01 (b : Int) : wB b = 0 ∨ wB b = 1 := by
  unfold wB
  split
  · exact Or.inl rfl
  · exact Or.inr rfl
/-- how long the word at a place is, 24 at most -/
def weR (g : Int → Int) (p : Int) : Nat → Int → Int
  | 0, len => len
  | k + 1, len => if wB (g (p + len)) = 1 then weR g p k (len + 1) else len
theorem weR_R (g : Int → Int) (p : Int) : ∀ (k : Nat) (len : Int), len ≤ weR g p k len ∧ weR g p k len ≤ len + k
  | 0, len => by unfold weR; omega
  | k + 1, len => by
    unfold weR
    split
    · have := weR_R g p k (len + 1); omega
    · omega
def wEnd (g : Int → Int) (p : Int) : Int := p + weR g p 24 0
theorem wEnd_R (g : Int → Int) (p : Int) : p ≤ wEnd g p ∧ wEnd g p ≤ p + 24 := by
  unfold wEnd
  have := weR_R g p 24 0
  omega
/-- a row whose places behind p moved up by one -/
def shf (N : Int → Int) (p n j : Int) : Int := if p < j ∧ j ≤ n then N (j - 1) else N j
theorem shf_0 (N : Int → Int) (n : Int) : shf N n n = N := by
  funext j
  unfold shf
  rw [if_neg (by omega)]
theorem shf_step (N : Int → Int) {i n : Int} (h : i ≤ n) : (fun j => if j = i then (shf N i n (i - 1)) else shf N i n j) = shf N (i - 1) n := by
  funext j
  unfold shf
  by_cases q : j = i
  · subst q
    rw [if_pos rfl, if_neg (by omega), if_pos (by omega)]
  · rw [if_neg q]
    by_cases q2 : i < j ∧ j ≤ n
    · rw [if_pos q2, if_pos (by omega)]
    · rw [if_neg q2, if_neg (by omega)]

set_option maxHeartbeats 4000000 in
set_option maxRecDepth 100000 in
/-- LabelReader.isWordByte -/
theorem c_LR_isWordByte (l : Launch) (D : jd_T) (b : Int) (hy0 : iR b) : jc_C l D y_LR_isWordByte b_LR_isWordByte 1 (some .boolean) { frames := 0, cells := 0, slots := 0, locals := 0 } [.int (ii b)] [] (fun _ : Unit => (.returned (some (.int (ii (wB b)))), True, [])) := by
  refine jc_of rfl (Nat.le_of_ble_eq_true rfl) ?_
  intro X hl hR hN ok hnm fin
  subst hl
  show jw X 0 0 [] [(0, .int (ii b))] 0 []
  refine jr_iload_n ok 0 d_LR_isWordByte_0 rfl rfl ?_
  refine jr_bipush ok d_LR_isWordByte_1 (by decide +kernel) ?_
  refine jr_icmp_lt 12 ok ⟨by omega, by omega⟩ ⟨by decide, by decide⟩ d_LR_isWordByte_3 (by decide) (fun c1 => ?_) (fun c1 => ?_)
  · skip
    refine jr_iconst ok d_LR_isWordByte_12 ?_
    exact jr_zret ok (by decide +kernel) fin (Nat.le_refl _) (Nat.le_refl _) () (congrArg (fun z => Outcome.returned (some (Value.int (ii z)))) (show (wB b) = 0 from (by unfold wB; rw [if_pos (by omega)]))) trivial sg_same d_LR_isWordByte_13
  · skip
    refine jr_iload_n ok 0 d_LR_isWordByte_6 rfl rfl ?_
    refine jr_bipush ok d_LR_isWordByte_7 (by decide +kernel) ?_
    refine jr_icmp_le 14 ok ⟨by omega, by omega⟩ ⟨by decide, by decide⟩ d_LR_isWordByte_9 (by decide) (fun c2 => ?_) (fun c2 => ?_)
    · skip
      refine jr_iload_n ok 0 d_LR_isWordByte_14 rfl rfl ?_
      refine jr_bipush ok d_LR_isWordByte_15 (by decide +kernel) ?_
      refine jr_icmp_eq 60 ok ⟨by omega, by omega⟩ ⟨by decide, by decide⟩ d_LR_isWordByte_17 (by decide) (fun c3 => ?_) (fun c3 => ?_)
      · skip
        refine jr_iconst ok d_LR_isWordByte_60 ?_
        exact jr_zret ok (by decide +kernel) fin (Nat.le_refl _) (Nat.le_refl _) () (congrArg (fun z => Outcome.returned (some (Value.int (ii z)))) (show (wB b) = 0 from (by unfold wB; rw [if_pos (by omega)]))) trivial sg_same d_LR_isWordByte_61
      · skip
        refine jr_iload_n ok 0 d_LR_isWordByte_20 rfl rfl ?_
        refine jr_bipush ok d_LR_isWordByte_21 (by decide +kernel) ?_
        refine jr_icmp_eq 60 ok ⟨by omega, by omega⟩ ⟨by decide, by decide⟩ d_LR_isWordByte_23 (by decide) (fun c4 => ?_) (fun c4 => ?_)
        · skip
          refine jr_iconst ok d_LR_isWordByte_60 ?_
          exact jr_zret ok (by decide +kernel) fin (Nat.le_refl _) (Nat.le_refl _) () (congrArg (fun z => Outcome.returned (some (Value.int (ii z)))) (show (wB b) = 0 from (by unfold wB; rw [if_pos (by omega)]))) trivial sg_same d_LR_isWordByte_61
        · skip
          refine jr_iload_n ok 0 d_LR_isWordByte_26 rfl rfl ?_
          refine jr_bipush ok d_LR_isWordByte_27 (by decide +kernel) ?_
          refine jr_icmp_eq 60 ok ⟨by omega, by omega⟩ ⟨by decide, by decide⟩ d_LR_isWordByte_29 (by decide) (fun c5 => ?_) (fun c5 => ?_)
          · skip
            refine jr_iconst ok d_LR_isWordByte_60 ?_
            exact jr_zret ok (by decide +kernel) fin (Nat.le_refl _) (Nat.le_refl _) () (congrArg (fun z => Outcome.returned (some (Value.int (ii z)))) (show (wB b) = 0 from (by unfold wB; rw [if_pos (by omega)]))) trivial sg_same d_LR_isWordByte_61
          · skip
            refine jr_iload_n ok 0 d_LR_isWordByte_32 rfl rfl ?_
            refine jr_bipush ok d_LR_isWordByte_33 (by decide +kernel) ?_
            refine jr_icmp_eq 60 ok ⟨by omega, by omega⟩ ⟨by decide, by decide⟩ d_LR_isWordByte_35 (by decide) (fun c6 => ?_) (fun c6 => ?_)
            · skip
              refine jr_iconst ok d_LR_isWordByte_60 ?_
              exact jr_zret ok (by decide +kernel) fin (Nat.le_refl _) (Nat.le_refl _) () (congrArg (fun z => Outcome.returned (some (Value.int (ii z)))) (show (wB b) = 0 from (by unfold wB; rw [if_pos (by omega)]))) trivial sg_same d_LR_isWordByte_61
            · skip
              refine jr_iload_n ok 0 d_LR_isWordByte_38 rfl rfl ?_
              refine jr_bipush ok d_LR_isWordByte_39 (by decide +kernel) ?_
              refine jr_icmp_eq 60 ok ⟨by omega, by omega⟩ ⟨by decide, by decide⟩ d_LR_isWordByte_41 (by decide) (fun c7 => ?_) (fun c7 => ?_)
              · skip
                refine jr_iconst ok d_LR_isWordByte_60 ?_
                exact jr_zret ok (by decide +kernel) fin (Nat.le_refl _) (Nat.le_refl _) () (congrArg (fun z => Outcome.returned (some (Value.int (ii z)))) (show (wB b) = 0 from (by unfold wB; rw [if_pos (by omega)]))) trivial sg_same d_LR_isWordByte_61
              · skip
                refine jr_iload_n ok 0 d_LR_isWordByte_44 rfl rfl ?_
                refine jr_bipush ok d_LR_isWordByte_45 (by decide +kernel) ?_
                refine jr_icmp_eq 60 ok ⟨by omega, by omega⟩ ⟨by decide, by decide⟩ d_LR_isWordByte_47 (by decide) (fun c8 => ?_) (fun c8 => ?_)
                · skip
                  refine jr_iconst ok d_LR_isWordByte_60 ?_
                  exact jr_zret ok (by decide +kernel) fin (Nat.le_refl _) (Nat.le_refl _) () (congrArg (fun z => Outcome.returned (some (Value.int (ii z)))) (show (wB b) = 0 from (by unfold wB; rw [if_pos (by omega)]))) trivial sg_same d_LR_isWordByte_61
                · skip
                  refine jr_iload_n ok 0 d_LR_isWordByte_50 rfl rfl ?_
                  refine jr_bipush ok d_LR_isWordByte_51 (by decide +kernel) ?_
                  refine jr_icmp_eq 60 ok ⟨by omega, by omega⟩ ⟨by decide, by decide⟩ d_LR_isWordByte_53 (by decide) (fun c9 => ?_) (fun c9 => ?_)
                  · skip
                    refine jr_iconst ok d_LR_isWordByte_60 ?_
                    exact jr_zret ok (by decide +kernel) fin (Nat.le_refl _) (Nat.le_refl _) () (congrArg (fun z => Outcome.returned (some (Value.int (ii z)))) (show (wB b) = 0 from (by unfold wB; rw [if_pos (by omega)]))) trivial sg_same d_LR_isWordByte_61
                  · skip
                    refine jr_iconst ok d_LR_isWordByte_56 ?_
                    refine jr_goto 61 ok d_LR_isWordByte_57 (by decide) ?_
                    exact jr_zret ok (by decide +kernel) fin (Nat.le_refl _) (Nat.le_refl _) () (congrArg (fun z => Outcome.returned (some (Value.int (ii z)))) (show (wB b) = 1 from (by unfold wB; rw [if_neg (by omega)]))) trivial sg_same d_LR_isWordByte_61
    · skip
      refine jr_iconst ok d_LR_isWordByte_12 ?_
      exact jr_zret ok (by decide +kernel) fin (Nat.le_refl _) (Nat.le_refl _) () (congrArg (fun z => Outcome.returned (some (Value.int (ii z)))) (show (wB b) = 0 from (by unfold wB; rw [if_pos (by omega)]))) trivial sg_same d_LR_isWordByte_13

set_option maxHeartbeats 4000000 in
set_option maxRecDepth 100000 in
/-- LabelReader.wordEnd -/
theorem c_LR_wordEnd (l : Launch) (D : jd_T) (ta : Nat) (tb : Nat) (cap : Int) (tn : Int) (f : Int → Int) (p : Int) (hy0 : 0 ≤ tn) (hy1 : tn ≤ cap) (hy2 : cap ≤ 1000000) (hy3 : -1000000 ≤ p ∧ p ≤ 1000000) : jc_C l D y_LR_wordEnd b_LR_wordEnd 3 (some .int) { frames := 1, cells := 0, slots := 0, locals := 21 } [.ref ta, .int (ii p)] [ob D ta 11 [.ref tb, .int (ii tn)], ai D 1 tb cap f] (fun _ : Unit => (.returned (some (.int (ii (wEnd (bA f tn) p)))), True, [ob D ta 11 [.ref tb, .int (ii tn)], ai D 1 tb cap f])) := by
  refine jc_of rfl (Nat.le_of_ble_eq_true rfl) ?_
  intro X hl hR hN ok hnm fin
  subst hl
  show jw X 0 0 [ob D ta 11 [.ref tb, .int (ii tn)], ai D 1 tb cap f] [(0, .ref ta), (1, .int (ii p))] 0 []
  have lp : ∀ (k : Nat) (i : Int), 0 ≤ i → i ≤ 2000000 → (24 - i).toNat = k → weR (bA f tn) p k i = weR (bA f tn) p 24 0 → jw X 0 0 [ob D ta 11 [.ref tb, .int (ii tn)], ai D 1 tb cap f] [(2, .int (ii i)), (0, .ref ta), (1, .int (ii p))] 2 [] := by
    intro k
    induction k with
    | zero =>
      intro i h1 h2 h4 h5
      refine jr_iload_n ok 0 d_LR_wordEnd_2 rfl rfl ?_
      refine jr_bipush ok d_LR_wordEnd_3 (by decide +kernel) ?_
      refine jr_icmp_ge 27 ok ⟨by omega, by omega⟩ ⟨by decide, by decide⟩ d_LR_wordEnd_5 (by decide) (fun c1 => ?_) (fun c1 => ?_)
      · skip
        refine jr_iload_n ok 2 d_LR_wordEnd_27 rfl rfl ?_
        refine jr_iload_n ok 0 d_LR_wordEnd_28 rfl rfl ?_
        refine jr_iadd ok d_LR_wordEnd_29 ?_
        exact jr_iret ok fin (Nat.le_refl _) (Nat.le_refl _) () (congrArg (fun z => Outcome.returned (some (Value.int (ii z)))) (show (wEnd (bA f tn) p) = p + i from (by unfold wEnd; rw [← h5]; rfl))) trivial sg_same d_LR_wordEnd_30
      · skip
        exfalso; omega
    | succ k ih =>
      intro i h1 h2 h4 h5
      refine jr_iload_n ok 0 d_LR_wordEnd_2 rfl rfl ?_
      refine jr_bipush ok d_LR_wordEnd_3 (by decide +kernel) ?_
      refine jr_icmp_ge 27 ok ⟨by omega, by omega⟩ ⟨by decide, by decide⟩ d_LR_wordEnd_5 (by decide) (fun c2 => ?_) (fun c2 => ?_)
      · skip
        exfalso; omega
      · skip
        refine jr_aload_n ok 1 d_LR_wordEnd_8 rfl rfl ?_
        refine jr_iload_n ok 2 d_LR_wordEnd_9 rfl rfl ?_
        refine jr_iload_n ok 0 d_LR_wordEnd_10 rfl rfl ?_
        refine jr_iadd ok d_LR_wordEnd_11 ?_
        refine jr_cV1 [0, 1] [] [ob D ta 11 [.ref tb, .int (ii tn)], ai D 1 tb cap f] 0 0 ok hR m_LR_52 0 (c_Tp_byteAt (jx_l X) D ta tb cap tn f (p + i) (by first | assumption | omega) (by first | assumption | omega) (by first | assumption | omega) ⟨by omega, by omega⟩) (List.isPerm_iff.mp rfl) rfl rfl rfl rfl rfl rfl rfl (Nat.le_of_ble_eq_true rfl) ⟨Nat.le_of_ble_eq_true rfl, Nat.le_of_ble_eq_true rfl⟩ rfl rfl ⟨Nat.le_of_ble_eq_true rfl, Nat.le_of_ble_eq_true rfl⟩ d_LR_wordEnd_12 (fun _ => ?_)
        have hf3_0 := bA_R f tn (p + i)
        refine jr_cS1 [] [0, 1] [ob D ta 11 [.ref tb, .int (ii tn)], ai D 1 tb cap f] 0 0 ok hR m_LR_71 (c_LR_isWordByte (jx_l X) D (bA f tn (p + i)) ⟨by omega, by omega⟩) (List.isPerm_iff.mp rfl) rfl rfl rfl rfl rfl (Nat.le_of_ble_eq_true rfl) ⟨Nat.le_of_ble_eq_true rfl, Nat.le_of_ble_eq_true rfl⟩ rfl rfl ⟨Nat.le_of_ble_eq_true rfl, Nat.le_of_ble_eq_true rfl⟩ d_LR_wordEnd_15 (fun _ => ?_)
        have hf4_0 := wB_01 (bA f tn (p + i))
        refine jr_if_eq 27 ok ⟨by omega, by omega⟩ d_LR_wordEnd_18 (by decide) (fun c5 => ?_) (fun c5 => ?_)
        · skip
          rw [weR, if_neg (by omega)] at h5
          refine jr_iload_n ok 2 d_LR_wordEnd_27 rfl rfl ?_
          refine jr_iload_n ok 0 d_LR_wordEnd_28 rfl rfl ?_
          refine jr_iadd ok d_LR_wordEnd_29 ?_
          exact jr_iret ok fin (Nat.le_refl _) (Nat.le_refl _) () (congrArg (fun z => Outcome.returned (some (Value.int (ii z)))) (show (wEnd (bA f tn) p) = p + i from (by unfold wEnd; rw [← h5]))) trivial sg_same d_LR_wordEnd_30
        · skip
          rw [weR, if_pos (by omega)] at h5
          refine jr_iinc [(2, .int (ii (i + 1))), (0, .ref ta), (1, .int (ii p))] 0 ok d_LR_wordEnd_21 rfl (by rw [hN]; decide) rfl ?_
          refine jr_goto 2 ok d_LR_wordEnd_24 (by decide) ?_
          exact jr_lv [0, 1, 2] rfl (ih (i + 1) (by omega) (by omega) (by omega) h5)
  refine jr_iconst ok d_LR_wordEnd_0 ?_
  refine jr_istore_n [(2, .int (ii 0)), (0, .ref ta), (1, .int (ii p))] ok d_LR_wordEnd_1 rfl (by rw [hN]; decide) rfl ?_
  exact jr_lv [0, 1, 2] rfl (lp _ 0 (by omega) (by omega) rfl rfl)

set_option maxHeartbeats 4000000 in
set_option maxRecDepth 100000 in
/-- LabelReader.letterAt -/
theorem c_LR_letterAt (l : Launch) (D : jd_T) (a : Nat) (na : Nat) (sa : Nat) (va : Nat) (lb : Nat) (n : Int) (len : Int) (fc : Int) (fp : Int) (F : Int → Int) (i : Int) (hy0 : 0 ≤ len) (hy1 : len ≤ 300) (hy2 : iR i) (hy3 : ∀ j, -128 ≤ F j ∧ F j ≤ 127) : jc_C l D y_LR_letterAt b_LR_letterAt 2 (some .int) { frames := 0, cells := 0, slots := 0, locals := 0 } [.ref a, .int (ii i)] [ob D a 4 [.ref na, .ref sa, .ref va, .int (ii n), .ref lb, .int (ii len), .int (ii fc), .int (ii fp)], ai D 1 lb 300 F] (fun _ : Unit => (.returned (some (.int (ii (lA F len i)))), -128 ≤ lA F len i ∧ lA F len i ≤ 127, [ob D a 4 [.ref na, .ref sa, .ref va, .int (ii n), .ref lb, .int (ii len), .int (ii fc), .int (ii fp)], ai D 1 lb 300 F])) := by
  refine jc_of rfl (Nat.le_of_ble_eq_true rfl) ?_
  intro X hl hR hN ok hnm fin
  subst hl
  show jw X 0 0 [ob D a 4 [.ref na, .ref sa, .ref va, .int (ii n), .ref lb, .int (ii len), .int (ii fc), .int (ii fp)], ai D 1 lb 300 F] [(0, .ref a), (1, .int (ii i))] 0 []
  refine jr_iload_n ok 1 d_LR_letterAt_0 rfl rfl ?_
  refine jr_if_lt 21 ok ⟨by omega, by omega⟩ d_LR_letterAt_1 (by decide) (fun c1 => ?_) (fun c1 => ?_)
  · skip
    refine jr_iconst ok d_LR_letterAt_21 ?_
    exact jr_iret ok fin (Nat.le_refl _) (Nat.le_refl _) () (congrArg (fun z => Outcome.returned (some (Value.int (ii z)))) (show (lA F len i) = -1 from (by unfold lA; rw [if_neg (by omega)]))) (lA_R _ _ hy3) sg_same d_LR_letterAt_22
  · skip
    refine jr_iload_n ok 1 d_LR_letterAt_4 rfl rfl ?_
    refine jr_aload_n ok 0 d_LR_letterAt_5 rfl rfl ?_
    refine jr_get ok 0 f_LR_32 rfl rfl d_LR_letterAt_6 ?_
    refine jr_icmp_ge 21 ok ⟨by omega, by omega⟩ ⟨by omega, by omega⟩ d_LR_letterAt_9 (by decide) (fun c2 => ?_) (fun c2 => ?_)
    · skip
      refine jr_iconst ok d_LR_letterAt_21 ?_
      exact jr_iret ok fin (Nat.le_refl _) (Nat.le_refl _) () (congrArg (fun z => Outcome.returned (some (Value.int (ii z)))) (show (lA F len i) = -1 from (by unfold lA; rw [if_neg (by omega)]))) (lA_R _ _ hy3) sg_same d_LR_letterAt_22
    · skip
      refine jr_aload_n ok 0 d_LR_letterAt_12 rfl rfl ?_
      refine jr_get ok 0 f_LR_21 rfl rfl d_LR_letterAt_13 ?_
      refine jr_iload_n ok 1 d_LR_letterAt_16 rfl rfl ?_
      refine jr_bald ok 1 rfl rfl (by omega) (by omega) d_LR_letterAt_17 ?_
      refine jr_goto 22 ok d_LR_letterAt_18 (by decide) ?_
      exact jr_iret ok fin (Nat.le_refl _) (Nat.le_refl _) () (congrArg (fun z => Outcome.returned (some (Value.int (ii z)))) (show (lA F len i) = F i from (by unfold lA; rw [if_pos (by omega)]))) (lA_R _ _ hy3) sg_same d_LR_letterAt_22

set_option maxHeartbeats 4000000 in
set_option maxRecDepth 100000 in
/-- LabelReader.refuse -/
theorem c_LR_refuse (l : Launch) (D : jd_T) (a : Nat) (na : Nat) (sa : Nat) (va : Nat) (lb : Nat) (n : Int) (len : Int) (fc : Int) (fp : Int) (x : Int) (y : Int)  : jc_C l D y_LR_refuse b_LR_refuse 3 (some .int) { frames := 0, cells := 0, slots := 0, locals := 0 } [.ref a, .int (ii x), .int (ii y)] [ob D a 4 [.ref na, .ref sa, .ref va, .int (ii n), .ref lb, .int (ii len), .int (ii fc), .int (ii fp)]] (fun _ : Unit => (.returned (some (.int (ii (-1)))), True, [ob D a 4 [.ref na, .ref sa, .ref va, .int (ii n), .ref lb, .int (ii len), .int (ii x), .int (ii y)]])) := by
  refine jc_of rfl (Nat.le_of_ble_eq_true rfl) ?_
  intro X hl hR hN ok hnm fin
  subst hl
  show jw X 0 0 [ob D a 4 [.ref na, .ref sa, .ref va, .int (ii n), .ref lb, .int (ii len), .int (ii fc), .int (ii fp)]] [(0, .ref a), (1, .int (ii x)), (2, .int (ii y))] 0 []
  refine jr_aload_n ok 0 d_LR_refuse_0 rfl rfl ?_
  refine jr_iload_n ok 1 d_LR_refuse_1 rfl rfl ?_
  refine jr_put [ob D a 4 [.ref na, .ref sa, .ref va, .int (ii n), .ref lb, .int (ii len), .int (ii x), .int (ii fp)]] ok 0 f_LR_25 rfl rfl rfl (Nat.le_of_ble_eq_true rfl) rfl d_LR_refuse_2 ?_
  refine jr_aload_n ok 0 d_LR_refuse_5 rfl rfl ?_
  refine jr_iload_n ok 2 d_LR_refuse_6 rfl rfl ?_
  refine jr_put [ob D a 4 [.ref na, .ref sa, .ref va, .int (ii n), .ref lb, .int (ii len), .int (ii x), .int (ii y)]] ok 0 f_LR_29 rfl rfl rfl (Nat.le_of_ble_eq_true rfl) rfl d_LR_refuse_7 ?_
  refine jr_iconst ok d_LR_refuse_10 ?_
  exact jr_iret ok fin (Nat.le_refl _) (Nat.le_refl _) () rfl trivial sg_same d_LR_refuse_11

set_option maxHeartbeats 4000000 in
set_option maxRecDepth 100000 in
/-- LabelReader.addLetter where there is room -/
theorem c_LR_addLetter (l : Launch) (D : jd_T) (a : Nat) (na : Nat) (sa : Nat) (va : Nat) (lb : Nat) (n : Int) (len : Int) (fc : Int) (fp : Int) (F : Int → Int) (z : Int) (hy0 : 0 ≤ len) (hy1 : len < 300) : jc_C l D y_LR_addLetter b_LR_addLetter 2 none { frames := 0, cells := 0, slots := 0, locals := 0 } [.ref a, .int (ii z)] [ob D a 4 [.ref na, .ref sa, .ref va, .int (ii n), .ref lb, .int (ii len), .int (ii fc), .int (ii fp)], ai D 1 lb 300 F] (fun _ : Unit => (.returned (none), True, [ob D a 4 [.ref na, .ref sa, .ref va, .int (ii n), .ref lb, .int (ii (len + 1)), .int (ii fc), .int (ii fp)], ai D 1 lb 300 (fun j => if j = len then (sb z) else F j)])) := by
  refine jc_of rfl (Nat.le_of_ble_eq_true rfl) ?_
  intro X hl hR hN ok hnm fin
  subst hl
  show jw X 0 0 [ob D a 4 [.ref na, .ref sa, .ref va, .int (ii n), .ref lb, .int (ii len), .int (ii fc), .int (ii fp)], ai D 1 lb 300 F] [(0, .ref a), (1, .int (ii z))] 0 []
  refine jr_aload_n ok 0 d_LR_addLetter_0 rfl rfl ?_
  refine jr_get ok 0 f_LR_32 rfl rfl d_LR_addLetter_1 ?_
  refine jr_aload_n ok 0 d_LR_addLetter_4 rfl rfl ?_
  refine jr_get ok 0 f_LR_21 rfl rfl d_LR_addLetter_5 ?_
  refine jr_alen_i ok 1 rfl rfl d_LR_addLetter_8 ?_
  refine jr_icmp_ge 33 ok ⟨by omega, by omega⟩ ⟨by decide, by decide⟩ d_LR_addLetter_9 (by decide) (fun c1 => ?_) (fun c1 => ?_)
  · skip
    exfalso; omega
  · skip
    refine jr_aload_n ok 0 d_LR_addLetter_12 rfl rfl ?_
    refine jr_get ok 0 f_LR_21 rfl rfl d_LR_addLetter_13 ?_
    refine jr_aload_n ok 0 d_LR_addLetter_16 rfl rfl ?_
    refine jr_get ok 0 f_LR_32 rfl rfl d_LR_addLetter_17 ?_
    refine jr_iload_n ok 1 d_LR_addLetter_20 rfl rfl ?_
    refine jr_i2b (z := sb z) ok d_LR_addLetter_21 (ii_i2b _) ?_
    refine jr_bast [ob D a 4 [.ref na, .ref sa, .ref va, .int (ii n), .ref lb, .int (ii len), .int (ii fc), .int (ii fp)], ai D 1 lb 300 (fun j => if j = len then (sb z) else F j)] ok 1 rfl rfl (by omega) (by omega) (nar_b (sb_R _)) rfl d_LR_addLetter_22 ?_
    refine jr_aload_n ok 0 d_LR_addLetter_23 rfl rfl ?_
    refine jr_dup rfl ok d_LR_addLetter_24 ?_
    refine jr_get ok 0 f_LR_32 rfl rfl d_LR_addLetter_25 ?_
    refine jr_iconst ok d_LR_addLetter_28 ?_
    refine jr_iadd ok d_LR_addLetter_29 ?_
    refine jr_put [ob D a 4 [.ref na, .ref sa, .ref va, .int (ii n), .ref lb, .int (ii (len + 1)), .int (ii fc), .int (ii fp)], ai D 1 lb 300 (fun j => if j = len then (sb z) else F j)] ok 0 f_LR_32 rfl rfl rfl (Nat.le_of_ble_eq_true rfl) rfl d_LR_addLetter_30 ?_
    exact jr_vret ok fin (Nat.le_refl _) (Nat.le_refl _) () rfl trivial sg_same d_LR_addLetter_33

set_option maxHeartbeats 4000000 in
set_option maxRecDepth 100000 in
/-- LabelReader.insert at a place of the order -/
theorem c_LR_insert (l : Launch) (D : jd_T) (a : Nat) (na : Nat) (sa : Nat) (va : Nat) (lb : Nat) (n : Int) (len : Int) (fc : Int) (fp : Int) (NA : Int → Int) (SA : Int → Int) (VA : Int → Int) (p : Int) (x : Int) (y : Int) (z : Int) (hy0 : 0 ≤ p) (hy1 : p ≤ n) (hy2 : n < 6) : jc_C l D y_LR_insert b_LR_insert 6 none { frames := 0, cells := 0, slots := 0, locals := 0 } [.ref a, .int (ii p), .int (ii x), .int (ii y), .int (ii z)] [ob D a 4 [.ref na, .ref sa, .ref va, .int (ii n), .ref lb, .int (ii len), .int (ii fc), .int (ii fp)], ai D 0 na 6 NA, ai D 0 sa 6 SA, ai D 0 va 6 VA] (fun _ : Unit => (.returned (none), True, [ob D a 4 [.ref na, .ref sa, .ref va, .int (ii (n + 1)), .ref lb, .int (ii len), .int (ii fc), .int (ii fp)], ai D 0 na 6 (fun j => if j = p then x else shf NA p n j), ai D 0 sa 6 (fun j => if j = p then y else shf SA p n j), ai D 0 va 6 (fun j => if j = p then z else shf VA p n j)])) := by
  refine jc_of rfl (Nat.le_of_ble_eq_true rfl) ?_
  intro X hl hR hN ok hnm fin
  subst hl
  show jw X 0 0 [ob D a 4 [.ref na, .ref sa, .ref va, .int (ii n), .ref lb, .int (ii len), .int (ii fc), .int (ii fp)], ai D 0 na 6 NA, ai D 0 sa 6 SA, ai D 0 va 6 VA] [(0, .ref a), (1, .int (ii p)), (2, .int (ii x)), (3, .int (ii y)), (4, .int (ii z))] 0 []
  have lp : ∀ (k : Nat) (i : Int), p ≤ i → i ≤ n → (i - p).toNat = k → jw X 0 0 [ob D a 4 [.ref na, .ref sa, .ref va, .int (ii n), .ref lb, .int (ii len), .int (ii fc), .int (ii fp)], ai D 0 na 6 (shf NA i n), ai D 0 sa 6 (shf SA i n), ai D 0 va 6 (shf VA i n)] [(5, .int (ii i)), (0, .ref a), (1, .int (ii p)), (2, .int (ii x)), (3, .int (ii y)), (4, .int (ii z))] 28 [] := by
    intro k
    induction k with
    | zero =>
      intro i h1 h2 h4
      have e9 : i = p := by omega
      subst e9
      refine jr_iload ok 0 d_LR_insert_28 rfl ?_
      refine jr_iload_n ok 2 d_LR_insert_30 rfl rfl ?_
      refine jr_icmp_le 88 ok ⟨by omega, by omega⟩ ⟨by omega, by omega⟩ d_LR_insert_31 (by decide) (fun c1 => ?_) (fun c1 => ?_)
      · skip
        refine jr_aload_n ok 1 d_LR_insert_88 rfl rfl ?_
        refine jr_get ok 0 f_LR_9 rfl rfl d_LR_insert_89 ?_
        refine jr_iload_n ok 2 d_LR_insert_92 rfl rfl ?_
        refine jr_iload_n ok 3 d_LR_insert_93 rfl rfl ?_
        refine jr_iast [ob D a 4 [.ref na, .ref sa, .ref va, .int (ii n), .ref lb, .int (ii len), .int (ii fc), .int (ii fp)], ai D 0 na 6 (fun j => if j = i then x else (shf NA i n) j), ai D 0 sa 6 (shf SA i n), ai D 0 va 6 (shf VA i n)] ok 1 rfl rfl (by omega) (by omega) rfl d_LR_insert_94 ?_
        refine jr_aload_n ok 1 d_LR_insert_95 rfl rfl ?_
        refine jr_get ok 0 f_LR_15 rfl rfl d_LR_insert_96 ?_
        refine jr_iload_n ok 2 d_LR_insert_99 rfl rfl ?_
        refine jr_iload_n ok 4 d_LR_insert_100 rfl rfl ?_
        refine jr_iast [ob D a 4 [.ref na, .ref sa, .ref va, .int (ii n), .ref lb, .int (ii len), .int (ii fc), .int (ii fp)], ai D 0 na 6 (fun j => if j = i then x else (shf NA i n) j), ai D 0 sa 6 (fun j => if j = i then y else (shf SA i n) j), ai D 0 va 6 (shf VA i n)] ok 2 rfl rfl (by omega) (by omega) rfl d_LR_insert_101 ?_
        refine jr_aload_n ok 1 d_LR_insert_102 rfl rfl ?_
        refine jr_get ok 0 f_LR_18 rfl rfl d_LR_insert_103 ?_
        refine jr_iload_n ok 2 d_LR_insert_106 rfl rfl ?_
        refine jr_iload ok 5 d_LR_insert_107 rfl ?_
        refine jr_iast [ob D a 4 [.ref na, .ref sa, .ref va, .int (ii n), .ref lb, .int (ii len), .int (ii fc), .int (ii fp)], ai D 0 na 6 (fun j => if j = i then x else (shf NA i n) j), ai D 0 sa 6 (fun j => if j = i then y else (shf SA i n) j), ai D 0 va 6 (fun j => if j = i then z else (shf VA i n) j)] ok 3 rfl rfl (by omega) (by omega) rfl d_LR_insert_109 ?_
        refine jr_aload_n ok 1 d_LR_insert_110 rfl rfl ?_
        refine jr_dup rfl ok d_LR_insert_111 ?_
        refine jr_get ok 0 f_LR_35 rfl rfl d_LR_insert_112 ?_
        refine jr_iconst ok d_LR_insert_115 ?_
        refine jr_iadd ok d_LR_insert_116 ?_
        refine jr_put [ob D a 4 [.ref na, .ref sa, .ref va, .int (ii (n + 1)), .ref lb, .int (ii len), .int (ii fc), .int (ii fp)], ai D 0 na 6 (fun j => if j = i then x else (shf NA i n) j), ai D 0 sa 6 (fun j => if j = i then y else (shf SA i n) j), ai D 0 va 6 (fun j => if j = i then z else (shf VA i n) j)] ok 0 f_LR_35 rfl rfl rfl (Nat.le_of_ble_eq_true rfl) rfl d_LR_insert_117 ?_
        exact jr_vret ok fin (Nat.le_refl _) (Nat.le_refl _) () rfl trivial sg_same d_LR_insert_120
      · skip
        exfalso; omega
    | succ k ih =>
      intro i h1 h2 h4
      refine jr_iload ok 0 d_LR_insert_28 rfl ?_
      refine jr_iload_n ok 2 d_LR_insert_30 rfl rfl ?_
      refine jr_icmp_le 88 ok ⟨by omega, by omega⟩ ⟨by omega, by omega⟩ d_LR_insert_31 (by decide) (fun c2 => ?_) (fun c2 => ?_)
      · skip
        exfalso; omega
      · skip
        refine jr_aload_n ok 1 d_LR_insert_34 rfl rfl ?_
        refine jr_get ok 0 f_LR_9 rfl rfl d_LR_insert_35 ?_
        refine jr_iload ok 0 d_LR_insert_38 rfl ?_
        refine jr_aload_n ok 1 d_LR_insert_40 rfl rfl ?_
        refine jr_get ok 0 f_LR_9 rfl rfl d_LR_insert_41 ?_
        refine jr_iload ok 0 d_LR_insert_44 rfl ?_
        refine jr_iconst ok d_LR_insert_46 ?_
        refine jr_isub ok d_LR_insert_47 ?_
        refine jr_iald ok 1 rfl rfl (by omega) (by omega) d_LR_insert_48 ?_
        refine jr_iast [ob D a 4 [.ref na, .ref sa, .ref va, .int (ii n), .ref lb, .int (ii len), .int (ii fc), .int (ii fp)], ai D 0 na 6 (fun j => if j = i then ((shf NA i n) (i - 1)) else (shf NA i n) j), ai D 0 sa 6 (shf SA i n), ai D 0 va 6 (shf VA i n)] ok 1 rfl rfl (by omega) (by omega) rfl d_LR_insert_49 ?_
        refine jr_aload_n ok 1 d_LR_insert_50 rfl rfl ?_
        refine jr_get ok 0 f_LR_15 rfl rfl d_LR_insert_51 ?_
        refine jr_iload ok 0 d_LR_insert_54 rfl ?_
        refine jr_aload_n ok 1 d_LR_insert_56 rfl rfl ?_
        refine jr_get ok 0 f_LR_15 rfl rfl d_LR_insert_57 ?_
        refine jr_iload ok 0 d_LR_insert_60 rfl ?_
        refine jr_iconst ok d_LR_insert_62 ?_
        refine jr_isub ok d_LR_insert_63 ?_
        refine jr_iald ok 2 rfl rfl (by omega) (by omega) d_LR_insert_64 ?_
        refine jr_iast [ob D a 4 [.ref na, .ref sa, .ref va, .int (ii n), .ref lb, .int (ii len), .int (ii fc), .int (ii fp)], ai D 0 na 6 (fun j => if j = i then ((shf NA i n) (i - 1)) else (shf NA i n) j), ai D 0 sa 6 (fun j => if j = i then ((shf SA i n) (i - 1)) else (shf SA i n) j), ai D 0 va 6 (shf VA i n)] ok 2 rfl rfl (by omega) (by omega) rfl d_LR_insert_65 ?_
        refine jr_aload_n ok 1 d_LR_insert_66 rfl rfl ?_
        refine jr_get ok 0 f_LR_18 rfl rfl d_LR_insert_67 ?_
        refine jr_iload ok 0 d_LR_insert_70 rfl ?_
        refine jr_aload_n ok 1 d_LR_insert_72 rfl rfl ?_
        refine jr_get ok 0 f_LR_18 rfl rfl d_LR_insert_73 ?_
        refine jr_iload ok 0 d_LR_insert_76 rfl ?_
        refine jr_iconst ok d_LR_insert_78 ?_
        refine jr_isub ok d_LR_insert_79 ?_
        refine jr_iald ok 3 rfl rfl (by omega) (by omega) d_LR_insert_80 ?_
        refine jr_iast [ob D a 4 [.ref na, .ref sa, .ref va, .int (ii n), .ref lb, .int (ii len), .int (ii fc), .int (ii fp)], ai D 0 na 6 (fun j => if j = i then ((shf NA i n) (i - 1)) else (shf NA i n) j), ai D 0 sa 6 (fun j => if j = i then ((shf SA i n) (i - 1)) else (shf SA i n) j), ai D 0 va 6 (fun j => if j = i then ((shf VA i n) (i - 1)) else (shf VA i n) j)] ok 3 rfl rfl (by omega) (by omega) rfl d_LR_insert_81 ?_
        refine jr_iinc [(5, .int (ii (i + (-1)))), (0, .ref a), (1, .int (ii p)), (2, .int (ii x)), (3, .int (ii y)), (4, .int (ii z))] 0 ok d_LR_insert_82 rfl (by rw [hN]; decide) rfl ?_
        refine jr_goto 28 ok d_LR_insert_85 (by decide) ?_
        rw [shf_step NA h2, shf_step SA h2, shf_step VA h2]
        have z9 := ih (i - 1) (by omega) (by omega) (by omega)
        exact jr_lv [0, 1, 2, 3, 4, 5] rfl z9
  refine jr_iload_n ok 1 d_LR_insert_0 rfl rfl ?_
  refine jr_if_lt 21 ok ⟨by omega, by omega⟩ d_LR_insert_1 (by decide) (fun c3 => ?_) (fun c3 => ?_)
  · skip
    exfalso; omega
  · skip
    refine jr_iload_n ok 1 d_LR_insert_4 rfl rfl ?_
    refine jr_aload_n ok 0 d_LR_insert_5 rfl rfl ?_
    refine jr_get ok 0 f_LR_35 rfl rfl d_LR_insert_6 ?_
    refine jr_icmp_gt 21 ok ⟨by omega, by omega⟩ ⟨by omega, by omega⟩ d_LR_insert_9 (by decide) (fun c4 => ?_) (fun c4 => ?_)
    · skip
      exfalso; omega
    · skip
      refine jr_aload_n ok 0 d_LR_insert_12 rfl rfl ?_
      refine jr_get ok 0 f_LR_35 rfl rfl d_LR_insert_13 ?_
      refine jr_bipush ok d_LR_insert_16 (by decide +kernel) ?_
      refine jr_icmp_lt 22 ok ⟨by omega, by omega⟩ ⟨by decide, by decide⟩ d_LR_insert_18 (by decide) (fun c5 => ?_) (fun c5 => ?_)
      · skip
        refine jr_aload_n ok 0 d_LR_insert_22 rfl rfl ?_
        refine jr_get ok 0 f_LR_35 rfl rfl d_LR_insert_23 ?_
        refine jr_istore [(5, .int (ii n)), (0, .ref a), (1, .int (ii p)), (2, .int (ii x)), (3, .int (ii y)), (4, .int (ii z))] ok d_LR_insert_26 (by rw [hN]; decide) rfl ?_
        have z9 := lp _ n (by omega) (by omega) rfl
        rw [shf_0, shf_0, shf_0] at z9
        exact jr_lv [0, 1, 2, 3, 4, 5] rfl z9
      · skip
        exfalso; omega

