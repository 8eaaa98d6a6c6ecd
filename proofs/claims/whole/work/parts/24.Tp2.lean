/-- byte k of a number of four, the highest first -/
def by4 (z k : Int) : Int := sb (z / (if k = 0 then 16777216 else if k = 1 then 65536 else if k = 2 then 256 else 1))
/-- the tape's bytes behind a number more -/
def put4 (f : Int → Int) (n z : Int) (g : Int → Int) : Prop := (∀ j, 0 ≤ j → j < n → g j = f j) ∧ (∀ k, 0 ≤ k → k < 4 → g (n + k) = by4 z k) ∧ ∀ j, -128 ≤ g j ∧ g j ≤ 127

set_option maxHeartbeats 4000000 in
set_option maxRecDepth 100000 in
/-- Tape.put -/
theorem c_Tp_put0 (l : Launch) (D : jd_T) (a : Nat) (b : Nat) (cap : Int) (n : Int) (f : Int → Int) (z : Int) (hy0 : 0 ≤ n) (hy1 : n ≤ cap) (hy2 : cap ≤ 1000000) (hy3 : iR z) (hy4 : ∀ j, -128 ≤ f j ∧ f j ≤ 127) (hy5 : n + 4 ≤ cap) : jc_C l D y_Tp_put b_Tp_put 3 none { frames := 0, cells := 0, slots := 0, locals := 0 } [.ref a, .int (ii z)] [ob D a 11 [.ref b, .int (ii n)], ai D 1 b cap f] (fun u : Nat × (Int → Int) => (.returned (none), put4 f n z u.2, [ob D a 11 [.ref u.1, .int (ii (n + 4))], ai D 1 u.1 cap u.2])) := by
  refine jc_of rfl (Nat.le_of_ble_eq_true rfl) ?_
  intro X hl hR hN ok hnm fin
  subst hl
  have hyz := hy3
  show jw X 0 0 [ob D a 11 [.ref b, .int (ii n)], ai D 1 b cap f] [(0, .ref a), (1, .int (ii z))] 0 []
  refine jr_aload_n ok 0 d_Tp_put_0 rfl rfl ?_
  refine jr_get ok 0 f_Tp_15 rfl rfl d_Tp_put_1 ?_
  refine jr_aload_n ok 0 d_Tp_put_4 rfl rfl ?_
  refine jr_get ok 0 f_Tp_9 rfl rfl d_Tp_put_5 ?_
  refine jr_alen_i ok 1 rfl rfl d_Tp_put_8 ?_
  refine jr_iconst ok d_Tp_put_9 ?_
  refine jr_isub ok d_Tp_put_10 ?_
  refine jr_icmp_le 32 ok ⟨by omega, by omega⟩ ⟨by omega, by omega⟩ d_Tp_put_11 (by decide) (fun c1 => ?_) (fun c1 => ?_)
  · skip
    refine jr_bipush ok d_Tp_put_32 (by decide +kernel) ?_
    refine jr_istore_n [(2, .int (ii 24)), (0, .ref a), (1, .int (ii z))] ok d_Tp_put_34 rfl (by rw [hN]; decide) rfl ?_
    refine jr_iload_n ok 0 d_Tp_put_35 rfl rfl ?_
    refine jr_if_lt 68 ok ⟨by decide, by decide⟩ d_Tp_put_36 (by decide) (fun c2 => ?_) (fun c2 => ?_)
    · skip
      exfalso; omega
    · skip
      refine jr_aload_n ok 1 d_Tp_put_39 rfl rfl ?_
      refine jr_get ok 0 f_Tp_9 rfl rfl d_Tp_put_40 ?_
      refine jr_aload_n ok 1 d_Tp_put_43 rfl rfl ?_
      refine jr_get ok 0 f_Tp_15 rfl rfl d_Tp_put_44 ?_
      refine jr_iload_n ok 2 d_Tp_put_47 rfl rfl ?_
      refine jr_iload_n ok 0 d_Tp_put_48 rfl rfl ?_
      refine jr_ishr (z := z / 16777216) ok d_Tp_put_49 (ii_shr24 hyz) ?_
      refine jr_i2b (z := sb (z / 16777216)) ok d_Tp_put_50 (ii_i2b _) ?_
      refine jr_bast [ob D a 11 [.ref b, .int (ii n)], ai D 1 b cap (fun j => if j = n then (sb (z / 16777216)) else f j)] ok 1 rfl rfl (by omega) (by omega) (nar_b (sb_R _)) rfl d_Tp_put_51 ?_
      refine jr_aload_n ok 1 d_Tp_put_52 rfl rfl ?_
      refine jr_dup rfl ok d_Tp_put_53 ?_
      refine jr_get ok 0 f_Tp_15 rfl rfl d_Tp_put_54 ?_
      refine jr_iconst ok d_Tp_put_57 ?_
      refine jr_iadd ok d_Tp_put_58 ?_
      refine jr_put [ob D a 11 [.ref b, .int (ii (n + 1))], ai D 1 b cap (fun j => if j = n then (sb (z / 16777216)) else f j)] ok 0 f_Tp_15 rfl rfl rfl (Nat.le_of_ble_eq_true rfl) rfl d_Tp_put_59 ?_
      refine jr_iinc [(2, .int (ii 16)), (0, .ref a), (1, .int (ii z))] 0 ok d_Tp_put_62 rfl (by rw [hN]; decide) rfl ?_
      refine jr_goto 35 ok d_Tp_put_65 (by decide) ?_
      refine jr_iload_n ok 0 d_Tp_put_35 rfl rfl ?_
      refine jr_if_lt 68 ok ⟨by decide, by decide⟩ d_Tp_put_36 (by decide) (fun c3 => ?_) (fun c3 => ?_)
      · skip
        exfalso; omega
      · skip
        refine jr_aload_n ok 1 d_Tp_put_39 rfl rfl ?_
        refine jr_get ok 0 f_Tp_9 rfl rfl d_Tp_put_40 ?_
        refine jr_aload_n ok 1 d_Tp_put_43 rfl rfl ?_
        refine jr_get ok 0 f_Tp_15 rfl rfl d_Tp_put_44 ?_
        refine jr_iload_n ok 2 d_Tp_put_47 rfl rfl ?_
        refine jr_iload_n ok 0 d_Tp_put_48 rfl rfl ?_
        refine jr_ishr (z := z / 65536) ok d_Tp_put_49 (ii_shr16 hyz) ?_
        refine jr_i2b (z := sb (z / 65536)) ok d_Tp_put_50 (ii_i2b _) ?_
        refine jr_bast [ob D a 11 [.ref b, .int (ii (n + 1))], ai D 1 b cap (fun j => if j = (n + 1) then (sb (z / 65536)) else (fun j => if j = n then (sb (z / 16777216)) else f j) j)] ok 1 rfl rfl (by omega) (by omega) (nar_b (sb_R _)) rfl d_Tp_put_51 ?_
        refine jr_aload_n ok 1 d_Tp_put_52 rfl rfl ?_
        refine jr_dup rfl ok d_Tp_put_53 ?_
        refine jr_get ok 0 f_Tp_15 rfl rfl d_Tp_put_54 ?_
        refine jr_iconst ok d_Tp_put_57 ?_
        refine jr_iadd ok d_Tp_put_58 ?_
        refine jr_put [ob D a 11 [.ref b, .int (ii ((n + 1) + 1))], ai D 1 b cap (fun j => if j = (n + 1) then (sb (z / 65536)) else (fun j => if j = n then (sb (z / 16777216)) else f j) j)] ok 0 f_Tp_15 rfl rfl rfl (Nat.le_of_ble_eq_true rfl) rfl d_Tp_put_59 ?_
        refine jr_iinc [(2, .int (ii 8)), (0, .ref a), (1, .int (ii z))] 0 ok d_Tp_put_62 rfl (by rw [hN]; decide) rfl ?_
        refine jr_goto 35 ok d_Tp_put_65 (by decide) ?_
        refine jr_iload_n ok 0 d_Tp_put_35 rfl rfl ?_
        refine jr_if_lt 68 ok ⟨by decide, by decide⟩ d_Tp_put_36 (by decide) (fun c4 => ?_) (fun c4 => ?_)
        · skip
          exfalso; omega
        · skip
          refine jr_aload_n ok 1 d_Tp_put_39 rfl rfl ?_
          refine jr_get ok 0 f_Tp_9 rfl rfl d_Tp_put_40 ?_
          refine jr_aload_n ok 1 d_Tp_put_43 rfl rfl ?_
          refine jr_get ok 0 f_Tp_15 rfl rfl d_Tp_put_44 ?_
          refine jr_iload_n ok 2 d_Tp_put_47 rfl rfl ?_
          refine jr_iload_n ok 0 d_Tp_put_48 rfl rfl ?_
          refine jr_ishr (z := z / 256) ok d_Tp_put_49 (ii_shr8 hyz) ?_
          refine jr_i2b (z := sb (z / 256)) ok d_Tp_put_50 (ii_i2b _) ?_
          refine jr_bast [ob D a 11 [.ref b, .int (ii ((n + 1) + 1))], ai D 1 b cap (fun j => if j = ((n + 1) + 1) then (sb (z / 256)) else (fun j => if j = (n + 1) then (sb (z / 65536)) else (fun j => if j = n then (sb (z / 16777216)) else f j) j) j)] ok 1 rfl rfl (by omega) (by omega) (nar_b (sb_R _)) rfl d_Tp_put_51 ?_
          refine jr_aload_n ok 1 d_Tp_put_52 rfl rfl ?_
          refine jr_dup rfl ok d_Tp_put_53 ?_
          refine jr_get ok 0 f_Tp_15 rfl rfl d_Tp_put_54 ?_
          refine jr_iconst ok d_Tp_put_57 ?_
          refine jr_iadd ok d_Tp_put_58 ?_
          refine jr_put [ob D a 11 [.ref b, .int (ii (((n + 1) + 1) + 1))], ai D 1 b cap (fun j => if j = ((n + 1) + 1) then (sb (z / 256)) else (fun j => if j = (n + 1) then (sb (z / 65536)) else (fun j => if j = n then (sb (z / 16777216)) else f j) j) j)] ok 0 f_Tp_15 rfl rfl rfl (Nat.le_of_ble_eq_true rfl) rfl d_Tp_put_59 ?_
          refine jr_iinc [(2, .int (ii 0)), (0, .ref a), (1, .int (ii z))] 0 ok d_Tp_put_62 rfl (by rw [hN]; decide) rfl ?_
          refine jr_goto 35 ok d_Tp_put_65 (by decide) ?_
          refine jr_iload_n ok 0 d_Tp_put_35 rfl rfl ?_
          refine jr_if_lt 68 ok ⟨by decide, by decide⟩ d_Tp_put_36 (by decide) (fun c5 => ?_) (fun c5 => ?_)
          · skip
            exfalso; omega
          · skip
            refine jr_aload_n ok 1 d_Tp_put_39 rfl rfl ?_
            refine jr_get ok 0 f_Tp_9 rfl rfl d_Tp_put_40 ?_
            refine jr_aload_n ok 1 d_Tp_put_43 rfl rfl ?_
            refine jr_get ok 0 f_Tp_15 rfl rfl d_Tp_put_44 ?_
            refine jr_iload_n ok 2 d_Tp_put_47 rfl rfl ?_
            refine jr_iload_n ok 0 d_Tp_put_48 rfl rfl ?_
            refine jr_ishr (z := z / 1) ok d_Tp_put_49 (ii_shr0 hyz) ?_
            refine jr_i2b (z := sb (z / 1)) ok d_Tp_put_50 (ii_i2b _) ?_
            refine jr_bast [ob D a 11 [.ref b, .int (ii (((n + 1) + 1) + 1))], ai D 1 b cap (fun j => if j = (((n + 1) + 1) + 1) then (sb (z / 1)) else (fun j => if j = ((n + 1) + 1) then (sb (z / 256)) else (fun j => if j = (n + 1) then (sb (z / 65536)) else (fun j => if j = n then (sb (z / 16777216)) else f j) j) j) j)] ok 1 rfl rfl (by omega) (by omega) (nar_b (sb_R _)) rfl d_Tp_put_51 ?_
            refine jr_aload_n ok 1 d_Tp_put_52 rfl rfl ?_
            refine jr_dup rfl ok d_Tp_put_53 ?_
            refine jr_get ok 0 f_Tp_15 rfl rfl d_Tp_put_54 ?_
            refine jr_iconst ok d_Tp_put_57 ?_
            refine jr_iadd ok d_Tp_put_58 ?_
            refine jr_put [ob D a 11 [.ref b, .int (ii ((((n + 1) + 1) + 1) + 1))], ai D 1 b cap (fun j => if j = (((n + 1) + 1) + 1) then (sb (z / 1)) else (fun j => if j = ((n + 1) + 1) then (sb (z / 256)) else (fun j => if j = (n + 1) then (sb (z / 65536)) else (fun j => if j = n then (sb (z / 16777216)) else f j) j) j) j)] ok 0 f_Tp_15 rfl rfl rfl (Nat.le_of_ble_eq_true rfl) rfl d_Tp_put_59 ?_
            refine jr_iinc [(2, .int (ii (-8))), (0, .ref a), (1, .int (ii z))] 0 ok d_Tp_put_62 rfl (by rw [hN]; decide) rfl ?_
            refine jr_goto 35 ok d_Tp_put_65 (by decide) ?_
            refine jr_iload_n ok 0 d_Tp_put_35 rfl rfl ?_
            refine jr_if_lt 68 ok ⟨by decide, by decide⟩ d_Tp_put_36 (by decide) (fun c6 => ?_) (fun c6 => ?_)
            · skip
              exact jr_vret ok fin (Nat.le_refl _) (Nat.le_refl _) ⟨b, fun j => if j = (((n + 1) + 1) + 1) then (sb (z / 1)) else (fun j => if j = ((n + 1) + 1) then (sb (z / 256)) else (fun j => if j = (n + 1) then (sb (z / 65536)) else (fun j => if j = n then (sb (z / 16777216)) else f j) j) j) j⟩ rfl ⟨fun j q1 q2 => by 
                    show (if j = n + 1 + 1 + 1 then _ else if j = n + 1 + 1 then _ else if j = n + 1 then _ else if j = n then _ else _) = _
                    rw [if_neg (by omega), if_neg (by omega), if_neg (by omega), if_neg (by omega)], fun k q1 q2 => by
                  rcases (show k = 0 ∨ k = 1 ∨ k = 2 ∨ k = 3 by omega) with rfl | rfl | rfl | rfl <;> simp [by4, Int.add_assoc] <;> omega, fun j => by 
                    show -128 ≤ (if j = n + 1 + 1 + 1 then _ else if j = n + 1 + 1 then _ else if j = n + 1 then _ else if j = n then _ else _) ∧ (if j = n + 1 + 1 + 1 then _ else if j = n + 1 + 1 then _ else if j = n + 1 then _ else if j = n then _ else _) ≤ 127
                    split
                    · exact sb_R _
                    · split
                      · exact sb_R _
                      · split
                        · exact sb_R _
                        · split
                          · exact sb_R _
                          · exact hy4 j⟩ (fun h q => by rw [show (n + 4 : Int) = (((n + 1) + 1) + 1) + 1 from by omega]; exact q) d_Tp_put_68
            · skip
              exfalso; omega
  · skip
    exfalso; omega

set_option maxHeartbeats 4000000 in
set_option maxRecDepth 100000 in
/-- Tape.put -/
theorem c_Tp_put1 (l : Launch) (D : jd_T) (a : Nat) (b : Nat) (cap : Int) (n : Int) (f : Int → Int) (z : Int) (hy0 : 0 ≤ n) (hy1 : n ≤ cap) (hy2 : cap ≤ 1000000) (hy3 : iR z) (hy4 : ∀ j, -128 ≤ f j ∧ f j ≤ 127) (hy5 : cap < n + 4) (hy6 : 4 ≤ cap) : jc_C l D y_Tp_put b_Tp_put 3 none { frames := 2, cells := 1, slots := (2 * cap).toNat, locals := 62 } [.ref a, .int (ii z)] [ob D a 11 [.ref b, .int (ii n)], ai D 1 b cap f] (fun u : Nat × (Int → Int) => (.returned (none), put4 f n z u.2, [ob D a 11 [.ref u.1, .int (ii (n + 4))], ai D 1 u.1 (2 * cap) u.2])) := by
  refine jc_of rfl (Nat.le_of_ble_eq_true rfl) ?_
  intro X hl hR hN ok hnm fin
  subst hl
  have hyz := hy3
  show jw X 0 0 [ob D a 11 [.ref b, .int (ii n)], ai D 1 b cap f] [(0, .ref a), (1, .int (ii z))] 0 []
  refine jr_aload_n ok 0 d_Tp_put_0 rfl rfl ?_
  refine jr_get ok 0 f_Tp_15 rfl rfl d_Tp_put_1 ?_
  refine jr_aload_n ok 0 d_Tp_put_4 rfl rfl ?_
  refine jr_get ok 0 f_Tp_9 rfl rfl d_Tp_put_5 ?_
  refine jr_alen_i ok 1 rfl rfl d_Tp_put_8 ?_
  refine jr_iconst ok d_Tp_put_9 ?_
  refine jr_isub ok d_Tp_put_10 ?_
  refine jr_icmp_le 32 ok ⟨by omega, by omega⟩ ⟨by omega, by omega⟩ d_Tp_put_11 (by decide) (fun c1 => ?_) (fun c1 => ?_)
  · skip
    exfalso; omega
  · skip
    refine jr_aload_n ok 0 d_Tp_put_14 rfl rfl ?_
    refine jr_aload_n ok 0 d_Tp_put_15 rfl rfl ?_
    refine jr_get ok 0 f_Tp_9 rfl rfl d_Tp_put_16 ?_
    refine jr_iconst ok d_Tp_put_19 ?_
    refine jr_aload_n ok 0 d_Tp_put_20 rfl rfl ?_
    refine jr_get ok 0 f_Tp_9 rfl rfl d_Tp_put_21 ?_
    refine jr_alen_i ok 1 rfl rfl d_Tp_put_24 ?_
    refine jr_imul ok d_Tp_put_25 ?_
    refine jr_cS1x [1] [0] (fun u : Nat => [ai D 1 b cap f, ai D 1 u (2 * cap) (fun j => if 0 ≤ j ∧ j < 0 + (min cap (2 * cap)) then f (0 + (j - 0)) else (fun _ => 0) j), ob D a 11 [.ref b, .int (ii n)]]) 1 ((2 * cap).toNat) ok hR m_Tp_19 (c_copyB (jx_l X) D b cap (2 * cap) f (by first | assumption | omega) (by first | assumption | omega) (by first | assumption | omega) (by first | assumption | omega) (by first | assumption | omega) (fun i _ _ => fit_b (hy4 i))) (List.isPerm_iff.mp rfl) rfl rfl (fun _ => rfl) rfl rfl (Nat.le_of_ble_eq_true rfl) ⟨Nat.le_of_ble_eq_true rfl, Nat.le_of_ble_eq_true rfl⟩ rfl (Nat.zero_add _) ⟨Nat.le_of_ble_eq_true rfl, Nat.le_refl _⟩ d_Tp_put_26 (fun q2 hx2 => ?_)
    show jw X 1 ((2 * cap).toNat) [ai D 1 b cap f, ai D 1 q2 (2 * cap) (fun j => if 0 ≤ j ∧ j < 0 + (min cap (2 * cap)) then f (0 + (j - 0)) else (fun _ => 0) j), ob D a 11 [.ref b, .int (ii n)]] [(0, .ref a), (1, .int (ii z))] 29 [.ref q2, .ref a]
    refine jr_put [ai D 1 b cap f, ai D 1 q2 (2 * cap) (fun j => if 0 ≤ j ∧ j < 0 + (min cap (2 * cap)) then f (0 + (j - 0)) else (fun _ => 0) j), ob D a 11 [.ref q2, .int (ii n)]] ok 2 f_Tp_9 rfl rfl rfl (Nat.le_of_ble_eq_true rfl) rfl d_Tp_put_29 ?_
    refine jr_drop (L' := [ai D 1 q2 (2 * cap) (fun j => if 0 ≤ j ∧ j < 0 + (min cap (2 * cap)) then f (0 + (j - 0)) else (fun _ => 0) j), ob D a 11 [.ref q2, .int (ii n)]]) 0 rfl ?_
    refine jr_bipush ok d_Tp_put_32 (by decide +kernel) ?_
    refine jr_istore_n [(2, .int (ii 24)), (0, .ref a), (1, .int (ii z))] ok d_Tp_put_34 rfl (by rw [hN]; decide) rfl ?_
    refine jr_iload_n ok 0 d_Tp_put_35 rfl rfl ?_
    refine jr_if_lt 68 ok ⟨by decide, by decide⟩ d_Tp_put_36 (by decide) (fun c3 => ?_) (fun c3 => ?_)
    · skip
      exfalso; omega
    · skip
      refine jr_aload_n ok 1 d_Tp_put_39 rfl rfl ?_
      refine jr_get ok 1 f_Tp_9 rfl rfl d_Tp_put_40 ?_
      refine jr_aload_n ok 1 d_Tp_put_43 rfl rfl ?_
      refine jr_get ok 1 f_Tp_15 rfl rfl d_Tp_put_44 ?_
      refine jr_iload_n ok 2 d_Tp_put_47 rfl rfl ?_
      refine jr_iload_n ok 0 d_Tp_put_48 rfl rfl ?_
      refine jr_ishr (z := z / 16777216) ok d_Tp_put_49 (ii_shr24 hyz) ?_
      refine jr_i2b (z := sb (z / 16777216)) ok d_Tp_put_50 (ii_i2b _) ?_
      refine jr_bast [ai D 1 q2 (2 * cap) (fun j => if j = n then (sb (z / 16777216)) else (fun j => if 0 ≤ j ∧ j < 0 + (min cap (2 * cap)) then f (0 + (j - 0)) else (fun _ => 0) j) j), ob D a 11 [.ref q2, .int (ii n)]] ok 0 rfl rfl (by omega) (by omega) (nar_b (sb_R _)) rfl d_Tp_put_51 ?_
      refine jr_aload_n ok 1 d_Tp_put_52 rfl rfl ?_
      refine jr_dup rfl ok d_Tp_put_53 ?_
      refine jr_get ok 1 f_Tp_15 rfl rfl d_Tp_put_54 ?_
      refine jr_iconst ok d_Tp_put_57 ?_
      refine jr_iadd ok d_Tp_put_58 ?_
      refine jr_put [ai D 1 q2 (2 * cap) (fun j => if j = n then (sb (z / 16777216)) else (fun j => if 0 ≤ j ∧ j < 0 + (min cap (2 * cap)) then f (0 + (j - 0)) else (fun _ => 0) j) j), ob D a 11 [.ref q2, .int (ii (n + 1))]] ok 1 f_Tp_15 rfl rfl rfl (Nat.le_of_ble_eq_true rfl) rfl d_Tp_put_59 ?_
      refine jr_iinc [(2, .int (ii 16)), (0, .ref a), (1, .int (ii z))] 0 ok d_Tp_put_62 rfl (by rw [hN]; decide) rfl ?_
      refine jr_goto 35 ok d_Tp_put_65 (by decide) ?_
      refine jr_iload_n ok 0 d_Tp_put_35 rfl rfl ?_
      refine jr_if_lt 68 ok ⟨by decide, by decide⟩ d_Tp_put_36 (by decide) (fun c4 => ?_) (fun c4 => ?_)
      · skip
        exfalso; omega
      · skip
        refine jr_aload_n ok 1 d_Tp_put_39 rfl rfl ?_
        refine jr_get ok 1 f_Tp_9 rfl rfl d_Tp_put_40 ?_
        refine jr_aload_n ok 1 d_Tp_put_43 rfl rfl ?_
        refine jr_get ok 1 f_Tp_15 rfl rfl d_Tp_put_44 ?_
        refine jr_iload_n ok 2 d_Tp_put_47 rfl rfl ?_
        refine jr_iload_n ok 0 d_Tp_put_48 rfl rfl ?_
        refine jr_ishr (z := z / 65536) ok d_Tp_put_49 (ii_shr16 hyz) ?_
        refine jr_i2b (z := sb (z / 65536)) ok d_Tp_put_50 (ii_i2b _) ?_
        refine jr_bast [ai D 1 q2 (2 * cap) (fun j => if j = (n + 1) then (sb (z / 65536)) else (fun j => if j = n then (sb (z / 16777216)) else (fun j => if 0 ≤ j ∧ j < 0 + (min cap (2 * cap)) then f (0 + (j - 0)) else (fun _ => 0) j) j) j), ob D a 11 [.ref q2, .int (ii (n + 1))]] ok 0 rfl rfl (by omega) (by omega) (nar_b (sb_R _)) rfl d_Tp_put_51 ?_
        refine jr_aload_n ok 1 d_Tp_put_52 rfl rfl ?_
        refine jr_dup rfl ok d_Tp_put_53 ?_
        refine jr_get ok 1 f_Tp_15 rfl rfl d_Tp_put_54 ?_
        refine jr_iconst ok d_Tp_put_57 ?_
        refine jr_iadd ok d_Tp_put_58 ?_
        refine jr_put [ai D 1 q2 (2 * cap) (fun j => if j = (n + 1) then (sb (z / 65536)) else (fun j => if j = n then (sb (z / 16777216)) else (fun j => if 0 ≤ j ∧ j < 0 + (min cap (2 * cap)) then f (0 + (j - 0)) else (fun _ => 0) j) j) j), ob D a 11 [.ref q2, .int (ii ((n + 1) + 1))]] ok 1 f_Tp_15 rfl rfl rfl (Nat.le_of_ble_eq_true rfl) rfl d_Tp_put_59 ?_
        refine jr_iinc [(2, .int (ii 8)), (0, .ref a), (1, .int (ii z))] 0 ok d_Tp_put_62 rfl (by rw [hN]; decide) rfl ?_
        refine jr_goto 35 ok d_Tp_put_65 (by decide) ?_
        refine jr_iload_n ok 0 d_Tp_put_35 rfl rfl ?_
        refine jr_if_lt 68 ok ⟨by decide, by decide⟩ d_Tp_put_36 (by decide) (fun c5 => ?_) (fun c5 => ?_)
        · skip
          exfalso; omega
        · skip
          refine jr_aload_n ok 1 d_Tp_put_39 rfl rfl ?_
          refine jr_get ok 1 f_Tp_9 rfl rfl d_Tp_put_40 ?_
          refine jr_aload_n ok 1 d_Tp_put_43 rfl rfl ?_
          refine jr_get ok 1 f_Tp_15 rfl rfl d_Tp_put_44 ?_
          refine jr_iload_n ok 2 d_Tp_put_47 rfl rfl ?_
          refine jr_iload_n ok 0 d_Tp_put_48 rfl rfl ?_
          refine jr_ishr (z := z / 256) ok d_Tp_put_49 (ii_shr8 hyz) ?_
          refine jr_i2b (z := sb (z / 256)) ok d_Tp_put_50 (ii_i2b _) ?_
          refine jr_bast [ai D 1 q2 (2 * cap) (fun j => if j = ((n + 1) + 1) then (sb (z / 256)) else (fun j => if j = (n + 1) then (sb (z / 65536)) else (fun j => if j = n then (sb (z / 16777216)) else (fun j => if 0 ≤ j ∧ j < 0 + (min cap (2 * cap)) then f (0 + (j - 0)) else (fun _ => 0) j) j) j) j), ob D a 11 [.ref q2, .int (ii ((n + 1) + 1))]] ok 0 rfl rfl (by omega) (by omega) (nar_b (sb_R _)) rfl d_Tp_put_51 ?_
          refine jr_aload_n ok 1 d_Tp_put_52 rfl rfl ?_
          refine jr_dup rfl ok d_Tp_put_53 ?_
          refine jr_get ok 1 f_Tp_15 rfl rfl d_Tp_put_54 ?_
          refine jr_iconst ok d_Tp_put_57 ?_
          refine jr_iadd ok d_Tp_put_58 ?_
          refine jr_put [ai D 1 q2 (2 * cap) (fun j => if j = ((n + 1) + 1) then (sb (z / 256)) else (fun j => if j = (n + 1) then (sb (z / 65536)) else (fun j => if j = n then (sb (z / 16777216)) else (fun j => if 0 ≤ j ∧ j < 0 + (min cap (2 * cap)) then f (0 + (j - 0)) else (fun _ => 0) j) j) j) j), ob D a 11 [.ref q2, .int (ii (((n + 1) + 1) + 1))]] ok 1 f_Tp_15 rfl rfl rfl (Nat.le_of_ble_eq_true rfl) rfl d_Tp_put_59 ?_
          refine jr_iinc [(2, .int (ii 0)), (0, .ref a), (1, .int (ii z))] 0 ok d_Tp_put_62 rfl (by rw [hN]; decide) rfl ?_
          refine jr_goto 35 ok d_Tp_put_65 (by decide) ?_
          refine jr_iload_n ok 0 d_Tp_put_35 rfl rfl ?_
          refine jr_if_lt 68 ok ⟨by decide, by decide⟩ d_Tp_put_36 (by decide) (fun c6 => ?_) (fun c6 => ?_)
          · skip
            exfalso; omega
          · skip
            refine jr_aload_n ok 1 d_Tp_put_39 rfl rfl ?_
            refine jr_get ok 1 f_Tp_9 rfl rfl d_Tp_put_40 ?_
            refine jr_aload_n ok 1 d_Tp_put_43 rfl rfl ?_
            refine jr_get ok 1 f_Tp_15 rfl rfl d_Tp_put_44 ?_
            refine jr_iload_n ok 2 d_Tp_put_47 rfl rfl ?_
            refine jr_iload_n ok 0 d_Tp_put_48 rfl rfl ?_
            refine jr_ishr (z := z / 1) ok d_Tp_put_49 (ii_shr0 hyz) ?_
            refine jr_i2b (z := sb (z / 1)) ok d_Tp_put_50 (ii_i2b _) ?_
            refine jr_bast [ai D 1 q2 (2 * cap) (fun j => if j = (((n + 1) + 1) + 1) then (sb (z / 1)) else (fun j => if j = ((n + 1) + 1) then (sb (z / 256)) else (fun j => if j = (n + 1) then (sb (z / 65536)) else (fun j => if j = n then (sb (z / 16777216)) else (fun j => if 0 ≤ j ∧ j < 0 + (min cap (2 * cap)) then f (0 + (j - 0)) else (fun _ => 0) j) j) j) j) j), ob D a 11 [.ref q2, .int (ii (((n + 1) + 1) + 1))]] ok 0 rfl rfl (by omega) (by omega) (nar_b (sb_R _)) rfl d_Tp_put_51 ?_
            refine jr_aload_n ok 1 d_Tp_put_52 rfl rfl ?_
            refine jr_dup rfl ok d_Tp_put_53 ?_
            refine jr_get ok 1 f_Tp_15 rfl rfl d_Tp_put_54 ?_
            refine jr_iconst ok d_Tp_put_57 ?_
            refine jr_iadd ok d_Tp_put_58 ?_
            refine jr_put [ai D 1 q2 (2 * cap) (fun j => if j = (((n + 1) + 1) + 1) then (sb (z / 1)) else (fun j => if j = ((n + 1) + 1) then (sb (z / 256)) else (fun j => if j = (n + 1) then (sb (z / 65536)) else (fun j => if j = n then (sb (z / 16777216)) else (fun j => if 0 ≤ j ∧ j < 0 + (min cap (2 * cap)) then f (0 + (j - 0)) else (fun _ => 0) j) j) j) j) j), ob D a 11 [.ref q2, .int (ii ((((n + 1) + 1) + 1) + 1))]] ok 1 f_Tp_15 rfl rfl rfl (Nat.le_of_ble_eq_true rfl) rfl d_Tp_put_59 ?_
            refine jr_iinc [(2, .int (ii (-8))), (0, .ref a), (1, .int (ii z))] 0 ok d_Tp_put_62 rfl (by rw [hN]; decide) rfl ?_
            refine jr_goto 35 ok d_Tp_put_65 (by decide) ?_
            refine jr_iload_n ok 0 d_Tp_put_35 rfl rfl ?_
            refine jr_if_lt 68 ok ⟨by decide, by decide⟩ d_Tp_put_36 (by decide) (fun c7 => ?_) (fun c7 => ?_)
            · skip
              exact jr_vret ok fin (Nat.le_refl _) (Nat.le_refl _) ⟨q2, fun j => if j = (((n + 1) + 1) + 1) then (sb (z / 1)) else (fun j => if j = ((n + 1) + 1) then (sb (z / 256)) else (fun j => if j = (n + 1) then (sb (z / 65536)) else (fun j => if j = n then (sb (z / 16777216)) else (fun j => if 0 ≤ j ∧ j < 0 + (min cap (2 * cap)) then f (0 + (j - 0)) else (fun _ => 0) j) j) j) j) j⟩ rfl ⟨fun j q1 q2 => by 
                    show (if j = n + 1 + 1 + 1 then _ else if j = n + 1 + 1 then _ else if j = n + 1 then _ else if j = n then _ else _) = _
                    rw [if_neg (by omega), if_neg (by omega), if_neg (by omega), if_neg (by omega)]
                    dsimp only
                    rw [if_pos (by omega)]; congr 1; omega, fun k q1 q2 => by
                  rcases (show k = 0 ∨ k = 1 ∨ k = 2 ∨ k = 3 by omega) with rfl | rfl | rfl | rfl <;> simp [by4, Int.add_assoc] <;> omega, fun j => by 
                    show -128 ≤ (if j = n + 1 + 1 + 1 then _ else if j = n + 1 + 1 then _ else if j = n + 1 then _ else if j = n then _ else _) ∧ (if j = n + 1 + 1 + 1 then _ else if j = n + 1 + 1 then _ else if j = n + 1 then _ else if j = n then _ else _) ≤ 127
                    split
                    · exact sb_R _
                    · split
                      · exact sb_R _
                      · split
                        · exact sb_R _
                        · split
                          · exact sb_R _
                          · dsimp only
                            split
                            · exact hy4 _
                            · exact ⟨by decide, by decide⟩⟩ (fun h q => by rw [show (n + 4 : Int) = (((n + 1) + 1) + 1) + 1 from by omega]; exact sg_pick [1, 0] (List.isPerm_iff.mp rfl) rfl h q) d_Tp_put_68
            · skip
              exfalso; omega

/-- two rows of bytes: the first difference, or the lengths -/
def cmpR (g : Int → Int) (p q la lb : Int) : Nat → Int → Int
  | 0, _ => cmpI la lb
  | k + 1, i => if i < lb then (if cmpI (g (p + i)) (g (q + i)) = 0 then cmpR g p q la lb k (i + 1) else cmpI (g (p + i)) (g (q + i))) else cmpI la lb

set_option maxHeartbeats 4000000 in
set_option maxRecDepth 100000 in
/-- Tape.compare -/
theorem c_Tp_compare (l : Launch) (D : jd_T) (a : Nat) (b : Nat) (cap : Int) (n : Int) (f : Int → Int) (p : Int) (p2 : Int) (q : Int) (q2 : Int) (hy0 : 0 ≤ n) (hy1 : n ≤ cap) (hy2 : cap ≤ 1000000) (hy3 : -1000000 ≤ p ∧ p ≤ 1000000) (hy4 : -1000000 ≤ p2 ∧ p2 ≤ 1000000) (hy5 : -1000000 ≤ q ∧ q ≤ 1000000) (hy6 : -1000000 ≤ q2 ∧ q2 ≤ 1000000) : jc_C l D y_Tp_compare b_Tp_compare 9 (some .int) { frames := 1, cells := 0, slots := 0, locals := 21 } [.ref a, .int (ii p), .int (ii p2), .int (ii q), .int (ii q2)] [ob D a 11 [.ref b, .int (ii n)], ai D 1 b cap f] (fun _ : Unit => (.returned (some (.int (ii (cmpR (bA f n) p q (p2 - p) (q2 - q) (p2 - p).toNat 0)))), True, [ob D a 11 [.ref b, .int (ii n)], ai D 1 b cap f])) := by
  refine jc_of rfl (Nat.le_of_ble_eq_true rfl) ?_
  intro X hl hR hN ok hnm fin
  subst hl
  show jw X 0 0 [ob D a 11 [.ref b, .int (ii n)], ai D 1 b cap f] [(0, .ref a), (1, .int (ii p)), (2, .int (ii p2)), (3, .int (ii q)), (4, .int (ii q2))] 0 []
  have lp : ∀ (k : Nat) (i : Int), 0 ≤ i → i ≤ 2000000 → (i ≤ p2 - p ∨ i = 0) → (p2 - p - i).toNat = k → cmpR (bA f n) p q (p2 - p) (q2 - q) k i = cmpR (bA f n) p q (p2 - p) (q2 - q) (p2 - p).toNat 0 → jw X 0 0 [ob D a 11 [.ref b, .int (ii n)], ai D 1 b cap f] [(7, .int (ii i)), (6, .int (ii (q2 - q))), (5, .int (ii (p2 - p))), (0, .ref a), (1, .int (ii p)), (2, .int (ii p2)), (3, .int (ii q)), (4, .int (ii q2))] 14 [] := by
    intro k
    induction k with
    | zero =>
      intro i h1 h2 h3 h4 h5
      have h5 : cmpI (p2 - p) (q2 - q) = _ := h5
      refine jr_iload ok 0 d_Tp_compare_14 rfl ?_
      refine jr_iload ok 2 d_Tp_compare_16 rfl ?_
      refine jr_icmp_ge 63 ok ⟨by omega, by omega⟩ ⟨by omega, by omega⟩ d_Tp_compare_18 (by decide) (fun c1 => ?_) (fun c1 => ?_)
      · skip
        refine jr_iload ok 2 d_Tp_compare_63 rfl ?_
        refine jr_iload ok 1 d_Tp_compare_65 rfl ?_
        refine jr_cS1 [] [0, 1] [ob D a 11 [.ref b, .int (ii n)], ai D 1 b cap f] 0 0 ok hR m_Tp_29 (c_Icmp (jx_l X) D (p2 - p) (q2 - q) ⟨by omega, by omega⟩ ⟨by omega, by omega⟩) (List.isPerm_iff.mp rfl) rfl rfl rfl rfl rfl (Nat.le_of_ble_eq_true rfl) ⟨Nat.le_of_ble_eq_true rfl, Nat.le_of_ble_eq_true rfl⟩ rfl rfl ⟨Nat.le_of_ble_eq_true rfl, Nat.le_of_ble_eq_true rfl⟩ d_Tp_compare_67 (fun _ => ?_)
        exact jr_iret ok fin (Nat.le_refl _) (Nat.le_refl _) () (congrArg (fun z => Outcome.returned (some (Value.int (ii z)))) (show cmpR (bA f n) p q (p2 - p) (q2 - q) (p2 - p).toNat 0 = cmpI (p2 - p) (q2 - q) from h5.symm)) trivial sg_same d_Tp_compare_70
      · skip
        exfalso; omega
    | succ k ih =>
      intro i h1 h2 h3 h4 h5
      refine jr_iload ok 0 d_Tp_compare_14 rfl ?_
      refine jr_iload ok 2 d_Tp_compare_16 rfl ?_
      refine jr_icmp_ge 63 ok ⟨by omega, by omega⟩ ⟨by omega, by omega⟩ d_Tp_compare_18 (by decide) (fun c2 => ?_) (fun c2 => ?_)
      · skip
        exfalso; omega
      · skip
        refine jr_iload ok 0 d_Tp_compare_21 rfl ?_
        refine jr_iload ok 1 d_Tp_compare_23 rfl ?_
        refine jr_icmp_ge 63 ok ⟨by omega, by omega⟩ ⟨by omega, by omega⟩ d_Tp_compare_25 (by decide) (fun c3 => ?_) (fun c3 => ?_)
        · skip
          rw [cmpR, if_neg (by omega)] at h5
          refine jr_iload ok 2 d_Tp_compare_63 rfl ?_
          refine jr_iload ok 1 d_Tp_compare_65 rfl ?_
          refine jr_cS1 [] [0, 1] [ob D a 11 [.ref b, .int (ii n)], ai D 1 b cap f] 0 0 ok hR m_Tp_29 (c_Icmp (jx_l X) D (p2 - p) (q2 - q) ⟨by omega, by omega⟩ ⟨by omega, by omega⟩) (List.isPerm_iff.mp rfl) rfl rfl rfl rfl rfl (Nat.le_of_ble_eq_true rfl) ⟨Nat.le_of_ble_eq_true rfl, Nat.le_of_ble_eq_true rfl⟩ rfl rfl ⟨Nat.le_of_ble_eq_true rfl, Nat.le_of_ble_eq_true rfl⟩ d_Tp_compare_67 (fun _ => ?_)
          exact jr_iret ok fin (Nat.le_refl _) (Nat.le_refl _) () (congrArg (fun z => Outcome.returned (some (Value.int (ii z)))) (show cmpR (bA f n) p q (p2 - p) (q2 - q) (p2 - p).toNat 0 = cmpI (p2 - p) (q2 - q) from h5.symm)) trivial sg_same d_Tp_compare_70
        · skip
          rw [cmpR, if_pos (by omega)] at h5
          refine jr_aload_n ok 3 d_Tp_compare_28 rfl rfl ?_
          refine jr_iload_n ok 4 d_Tp_compare_29 rfl rfl ?_
          refine jr_iload ok 0 d_Tp_compare_30 rfl ?_
          refine jr_iadd ok d_Tp_compare_32 ?_
          refine jr_cV1 [0, 1] [] [ob D a 11 [.ref b, .int (ii n)], ai D 1 b cap f] 0 0 ok hR m_Tp_25 0 (c_Tp_byteAt (jx_l X) D a b cap n f (p + i) (by first | assumption | omega) (by first | assumption | omega) (by first | assumption | omega) ⟨by omega, by omega⟩) (List.isPerm_iff.mp rfl) rfl rfl rfl rfl rfl rfl rfl (Nat.le_of_ble_eq_true rfl) ⟨Nat.le_of_ble_eq_true rfl, Nat.le_of_ble_eq_true rfl⟩ rfl rfl ⟨Nat.le_of_ble_eq_true rfl, Nat.le_of_ble_eq_true rfl⟩ d_Tp_compare_33 (fun _ => ?_)
          refine jr_aload_n ok 3 d_Tp_compare_36 rfl rfl ?_
          refine jr_iload_n ok 6 d_Tp_compare_37 rfl rfl ?_
          refine jr_iload ok 0 d_Tp_compare_38 rfl ?_
          refine jr_iadd ok d_Tp_compare_40 ?_
          refine jr_cV1 [0, 1] [] [ob D a 11 [.ref b, .int (ii n)], ai D 1 b cap f] 0 0 ok hR m_Tp_25 0 (c_Tp_byteAt (jx_l X) D a b cap n f (q + i) (by first | assumption | omega) (by first | assumption | omega) (by first | assumption | omega) ⟨by omega, by omega⟩) (List.isPerm_iff.mp rfl) rfl rfl rfl rfl rfl rfl rfl (Nat.le_of_ble_eq_true rfl) ⟨Nat.le_of_ble_eq_true rfl, Nat.le_of_ble_eq_true rfl⟩ rfl rfl ⟨Nat.le_of_ble_eq_true rfl, Nat.le_of_ble_eq_true rfl⟩ d_Tp_compare_41 (fun _ => ?_)
          refine jr_cS1 [] [0, 1] [ob D a 11 [.ref b, .int (ii n)], ai D 1 b cap f] 0 0 ok hR m_Tp_29 (c_Icmp (jx_l X) D (bA f n (p + i)) (bA f n (q + i)) ⟨by have := bA_R f n (p + i); omega, by have := bA_R f n (p + i); omega⟩ ⟨by have := bA_R f n (q + i); omega, by have := bA_R f n (q + i); omega⟩) (List.isPerm_iff.mp rfl) rfl rfl rfl rfl rfl (Nat.le_of_ble_eq_true rfl) ⟨Nat.le_of_ble_eq_true rfl, Nat.le_of_ble_eq_true rfl⟩ rfl rfl ⟨Nat.le_of_ble_eq_true rfl, Nat.le_of_ble_eq_true rfl⟩ d_Tp_compare_44 (fun _ => ?_)
          refine jr_istore [(8, .int (ii (cmpI (bA f n (p + i)) (bA f n (q + i))))), (7, .int (ii i)), (6, .int (ii (q2 - q))), (5, .int (ii (p2 - p))), (0, .ref a), (1, .int (ii p)), (2, .int (ii p2)), (3, .int (ii q)), (4, .int (ii q2))] ok d_Tp_compare_47 (by rw [hN]; decide) rfl ?_
          refine jr_iload ok 0 d_Tp_compare_49 rfl ?_
          refine jr_if_eq 57 ok ⟨by have := cmpI_R (bA f n (p + i)) (bA f n (q + i)); omega, by have := cmpI_R (bA f n (p + i)) (bA f n (q + i)); omega⟩ d_Tp_compare_51 (by decide) (fun c4 => ?_) (fun c4 => ?_)
          · skip
            rw [if_pos c4] at h5
            refine jr_iinc [(7, .int (ii (i + 1))), (8, .int (ii (cmpI (bA f n (p + i)) (bA f n (q + i))))), (6, .int (ii (q2 - q))), (5, .int (ii (p2 - p))), (0, .ref a), (1, .int (ii p)), (2, .int (ii p2)), (3, .int (ii q)), (4, .int (ii q2))] 1 ok d_Tp_compare_57 rfl (by rw [hN]; decide) rfl ?_
            refine jr_goto 14 ok d_Tp_compare_60 (by decide) ?_
            exact jr_lv [0, 2, 3, 4, 5, 6, 7, 8] rfl (ih (i + 1) (by omega) (by omega) (by omega) (by omega) h5)
          · skip
            rw [if_neg c4] at h5
            refine jr_iload ok 0 d_Tp_compare_54 rfl ?_
            exact jr_iret ok fin (Nat.le_refl _) (Nat.le_refl _) () (congrArg (fun z => Outcome.returned (some (Value.int (ii z)))) (show cmpR (bA f n) p q (p2 - p) (q2 - q) (p2 - p).toNat 0 = cmpI (bA f n (p + i)) (bA f n (q + i)) from h5.symm)) trivial sg_same d_Tp_compare_56
  refine jr_iload_n ok 2 d_Tp_compare_0 rfl rfl ?_
  refine jr_iload_n ok 1 d_Tp_compare_1 rfl rfl ?_
  refine jr_isub ok d_Tp_compare_2 ?_
  refine jr_istore [(5, .int (ii (p2 - p))), (0, .ref a), (1, .int (ii p)), (2, .int (ii p2)), (3, .int (ii q)), (4, .int (ii q2))] ok d_Tp_compare_3 (by rw [hN]; decide) rfl ?_
  refine jr_iload ok 5 d_Tp_compare_5 rfl ?_
  refine jr_iload_n ok 4 d_Tp_compare_7 rfl rfl ?_
  refine jr_isub ok d_Tp_compare_8 ?_
  refine jr_istore [(6, .int (ii (q2 - q))), (5, .int (ii (p2 - p))), (0, .ref a), (1, .int (ii p)), (2, .int (ii p2)), (3, .int (ii q)), (4, .int (ii q2))] ok d_Tp_compare_9 (by rw [hN]; decide) rfl ?_
  refine jr_iconst ok d_Tp_compare_11 ?_
  refine jr_istore [(7, .int (ii 0)), (6, .int (ii (q2 - q))), (5, .int (ii (p2 - p))), (0, .ref a), (1, .int (ii p)), (2, .int (ii p2)), (3, .int (ii q)), (4, .int (ii q2))] ok d_Tp_compare_12 (by rw [hN]; decide) rfl ?_
  exact lp _ 0 (by omega) (by omega) (by omega) (by omega) rfl

set_option maxHeartbeats 4000000 in
set_option maxRecDepth 100000 in
/-- Tape() -/
theorem c_Tp_init (l : Launch) (D : jd_T) (a : Nat)  : jc_C l D y_Tp_init b_Tp_init 1 none { frames := 1, cells := 1, slots := 512, locals := 20 } [.ref a] [ob D a 11 [.null, .int (ii 0)]] (fun b : Nat => (.returned (none), True, [ob D a 11 [.ref b, .int (ii 0)], ai D 1 b 512 (fun _ => 0)])) := by
  refine jc_of rfl (Nat.le_of_ble_eq_true rfl) ?_
  intro X hl hR hN ok hnm fin
  subst hl
  show jw X 0 0 [ob D a 11 [.null, .int (ii 0)]] [(0, .ref a)] 0 []
  refine jr_aload_n ok 0 d_Tp_init_0 rfl rfl ?_
  refine jr_objInit ok w_41 w_34 w_35 d_Tp_init_1 (Nat.le_of_ble_eq_true rfl) (by rw [hR]; exact Nat.le_of_ble_eq_true rfl) (by rw [hR]; exact Nat.le_of_ble_eq_true rfl) ?_
  refine jr_aload_n ok 0 d_Tp_init_4 rfl rfl ?_
  refine jr_sipush ok d_Tp_init_5 (by decide +kernel) ?_
  refine jr_newb ok hR w_49 (by decide) (by decide) (Nat.le_of_ble_eq_true rfl) (Nat.le_of_ble_eq_true rfl) d_Tp_init_8 (fun q1 => ?_)
  show jw X 1 512 [ob D a 11 [.null, .int (ii 0)], ai D 1 q1 512 (fun _ => 0)] [(0, .ref a)] 10 [.ref q1, .ref a]
  refine jr_put [ob D a 11 [.ref q1, .int (ii 0)], ai D 1 q1 512 (fun _ => 0)] ok 0 f_Tp_9 rfl rfl rfl (Nat.le_of_ble_eq_true rfl) rfl d_Tp_init_10 ?_
  exact jr_vret ok fin (Nat.le_refl _) (Nat.le_refl _) q1 rfl trivial sg_same d_Tp_init_13

