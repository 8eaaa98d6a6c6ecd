set_option maxRecDepth 100000 in
theorem zq_sumG_upd (F : Int → Int) (f : Nat → Int) (v : Nat) (x : Int) : ∀ n : Nat, zq_sumG (fun j => F (nU f v x j)) n = zq_sumG (fun j => F (f j)) n + (if v < n then F x - F (f v) else 0)
  | 0 => by simp [zq_sumG]
  | n + 1 => by
    rw [zq_sumG, zq_sumG, zq_sumG_upd F f v x n]
    by_cases c : v = n
    · subst c
      rw [if_neg (by omega), if_pos (by omega)]
      show _ + F (nU f v x v) = _
      rw [nU_at]; omega
    · have : nU f v x n = f n := nU_ne _ _ _ _ (fun z => c z.symm)
      show _ + F (nU f v x n) = _
      rw [this]
      by_cases c2 : v < n
      · rw [if_pos c2, if_pos (by omega)]; omega
      · rw [if_neg c2, if_neg (by omega)]; omega
set_option maxRecDepth 100000 in
def zq_gcw (c : CW) (v : Nat) (x : Int) (bc bs : Nat) : CW := CW.w_gd (CW.w_bs (CW.w_bc (CW.w_gc c (nU c.gc v x)) bc) bs) (nU c.gd v x)
set_option maxRecDepth 100000 in
def zq_gsw (S : WS) (v : Nat) (L W nm : Int) (th : Int → Int) (nu : Int → Int64) : WS := WS.w_gd_there (WS.w_gd_numbers (WS.w_gd_named (WS.w_gd_windows (WS.w_gd_lines S (nU S.gd_lines v L)) (nU S.gd_windows v W)) (nU S.gd_named v nm)) (nU S.gd_numbers v nu)) (nU S.gd_there v th)
set_option maxRecDepth 100000 in
theorem zq_gL_mono {x y : Int} (h : x ≤ y) : zq_gL x ≤ zq_gL y := by
  unfold zq_gL
  by_cases c : x ≤ 0
  · rw [if_pos c]; split
    · omega
    · omega
  · rw [if_neg c, if_neg (by omega)]
    have : Nat.log2 x.toNat ≤ Nat.log2 y.toNat := by
      rcases Nat.lt_or_ge (Nat.log2 y.toNat) (Nat.log2 x.toNat) with z | z
      · exfalso
        have h1 : y.toNat < 2 ^ (Nat.log2 x.toNat) := (Nat.log2_lt (by omega)).mp z
        have h2 : 2 ^ (Nat.log2 x.toNat) ≤ x.toNat := Nat.log2_self_le (by omega)
        omega
      · exact z
    omega
set_option maxRecDepth 100000 in
theorem zq_E_sh91 {c : CW} {S : WS} {v : Nat} {L W nm : Int} {nu : Int → Int64} {E : Nat} (hE : (E : Int) ≤ c.gd v ∧ E ≤ 16384) : ∀ (m f i : Nat) (th : Int → Int), i + m = E → m < f → ∃ th', q_Gd_shape_91 f c v E i (zq_gsw S v L W nm th nu) = some ((), c, zq_gsw S v L W nm th' nu) ∧ (∀ j, (i : Int) ≤ j → j < E → th' j = 0) ∧ (∀ j, (j < (i : Int) ∨ (E : Int) ≤ j) → th' j = th j)
  | m, 0, i, th => by omega
  | m, f + 1, i, th => by
    intro hm hf
    rw [q_Gd_shape_91, zq_w32i (z := (E : Int)) (by omega) (by omega), zq_w32i (z := (i : Int)) (by omega) (by omega)]
    cases m with
    | zero => rw [if_pos (by omega)]; exact ⟨th, rfl, fun j h1 h2 => by omega, fun _ _ => rfl⟩
    | succ m =>
      rw [if_neg (by omega), if_pos ⟨by omega, by omega⟩]
      obtain ⟨th', a1, a2, a3⟩ := zq_E_sh91 (S := S) (L := L) (W := W) (nm := nm) (nu := nu) hE m f (i + 1) (aU th i 0) (by omega) (by omega)
      have es : WS.w_gd_there (zq_gsw S v L W nm th nu) (nU (zq_gsw S v L W nm th nu).gd_there v (aU ((zq_gsw S v L W nm th nu).gd_there v) i 0)) = zq_gsw S v L W nm (aU th i 0) nu := by
        have e1 : (zq_gsw S v L W nm th nu).gd_there v = th := nU_at _ _ _
        rw [e1]
        show WS.w_gd_there _ (nU (nU S.gd_there v th) v (aU th i 0)) = _
        have e2 : nU (nU S.gd_there v th) v (aU th i 0) = nU S.gd_there v (aU th i 0) := by
          funext j; unfold nU; split <;> rfl
        rw [e2]; rfl
      rw [es]
      rw [show ((i + 1 : Nat) : Int) = (i : Int) + 1 by omega] at a1 a2 a3
      refine ⟨th', a1, fun j h1 h2 => ?_, fun j hj => ?_⟩
      · by_cases z : j = i
        · rw [a3 j (by omega), z, zq_aU_at]
        · exact a2 j (by omega) h2
      · rw [a3 j (by omega), zq_aU_ne _ _ _ _ (by omega)]
set_option maxRecDepth 100000 in
theorem zq_w_shape {k : Nat} {c : CW} {S : WS} (g : zq_gdB k c S) (ht : c.tc ≤ 20500) (h0 : 0 ≤ S.tp_size) (hk : k < 512) {v : Nat} (hv : v < 19) {L W nm : Int} (hL : 0 ≤ L ∧ L ≤ 256) (hW : 1 ≤ W ∧ W ≤ 64) (hnm : nm = 0 ∨ nm = 1) : ∃ c' th nu, s_Gd_shape c S v L W nm = some ((), c', zq_gsw S v L W nm th nu) ∧ (∃ x bc bs, c' = zq_gcw c v x bc bs) ∧ zq_gdB k c' S ∧ (L * W ≤ c'.gc v ∧ c'.gd v = c'.gc v ∧ c'.gc v ≤ 16384) ∧ (∀ j, 0 ≤ j → j < L * W → th j = 0) := by
  have lo := zq_gdB_low g ht h0 hk
  have g0 := g
  obtain ⟨g1, g2, g3, g4, g5⟩ := g
  have hg := g3 v hv
  have hLW0 : 0 ≤ L * W := Int.mul_nonneg hL.1 (by omega)
  have hLW : L * W ≤ 16384 := by
    have a := Int.mul_le_mul_of_nonneg_right (a := L) (b := 256) (c := W) hL.2 (by omega)
    omega
  obtain ⟨E, hE⟩ : ∃ E : Nat, L * W = E := ⟨(L * W).toNat, by omega⟩
  have e1 : (nU S.gd_lines v L) v * (nU S.gd_windows v W) v = E := by rw [nU_at, nU_at]; exact hE
  have em : min (w32 ((nU S.gd_lines v L) v * (nU S.gd_windows v W) v)) 16384 = (E : Int) := by
    rw [e1, zq_w32i (z := (E : Int)) (by omega) (by omega)]; omega
  have est : WS.w_gd_named (WS.w_gd_windows (WS.w_gd_lines S (nU S.gd_lines v L)) (nU S.gd_windows v W)) (nU S.gd_named v nm) = zq_gsw S v L W nm (S.gd_there v) (S.gd_numbers v) := by
    unfold zq_gsw
    have q1 : nU S.gd_numbers v (S.gd_numbers v) = S.gd_numbers := by funext j; unfold nU; split <;> simp_all
    have q2 : nU S.gd_there v (S.gd_there v) = S.gd_there := by funext j; unfold nU; split <;> simp_all
    show _ = WS.w_gd_there (WS.w_gd_numbers _ (nU S.gd_numbers v (S.gd_numbers v))) (nU S.gd_there v (S.gd_there v))
    rw [q1, q2]
  rw [s_Gd_shape, if_pos hnm, em, zq_w32i (z := c.gc v) (by omega) (by omega), zq_w32i (z := (E : Int)) (by omega) (by omega), zq_w32i (z := c.gd v) (by omega) (by omega), est]
  have stay : (E : Int) ≤ c.gc v → ∃ c' th nu, q_Gd_shape_88 c v E (zq_gsw S v L W nm (S.gd_there v) (S.gd_numbers v)) = some ((), c', zq_gsw S v L W nm th nu) ∧ (∃ x bc bs, c' = zq_gcw c v x bc bs) ∧ zq_gdB k c' S ∧ (L * W ≤ c'.gc v ∧ c'.gd v = c'.gc v ∧ c'.gc v ≤ 16384) ∧ (∀ j, 0 ≤ j → j < L * W → th j = 0) := by
    intro hle
    obtain ⟨th', a1, a2, a3⟩ := zq_E_sh91 (c := c) (S := S) (v := v) (L := L) (W := W) (nm := nm) (nu := S.gd_numbers v) (E := E) (by omega) E fU 0 (S.gd_there v) (by omega) (zq_fU_gt (by omega))
    refine ⟨c, th', S.gd_numbers v, a1, ⟨c.gc v, c.bc, c.bs, ?_⟩, g0, by omega, fun j h1 h2 => a2 j h1 (by omega)⟩
    have q1 : nU c.gc v (c.gc v) = c.gc := by funext j; unfold nU; split <;> simp_all
    have q2 : nU c.gd v (c.gc v) = c.gd := by funext j; unfold nU; split; simp_all; rfl
    unfold zq_gcw; rw [q1, q2]
  by_cases c1 : c.gc v < (E : Int)
  · rw [if_pos c1]
    -- a larger array
    obtain ⟨X, hX⟩ : ∃ X : Nat, min (max (E : Int) (2 * c.gc v)) 16384 = X := ⟨(min (max (E : Int) (2 * c.gc v)) 16384).toNat, by omega⟩
    have eX : min (w32 (max (w32 (E : Int)) (w32 (2 * c.gc v)))) 16384 = (X : Int) := by
      rw [zq_w32i (z := (E : Int)) (by omega) (by omega), zq_w32i (z := 2 * c.gc v) (by omega) (by omega), zq_w32i (z := max (E : Int) (2 * c.gc v)) (by omega) (by omega), hX]
    rw [q_Gd_shape_52, eX]
    have hbs : 40000 ≤ c.bs := by omega
    rw [if_pos ⟨⟨by omega, by omega⟩, by omega, by omega⟩]
    rw [if_pos (show ((0 : Int) ≤ (X : Int) ∧ (X : Int) ≤ 67108864) ∧ 1 ≤ (CW.w_gc (CW.w_bs (CW.w_bc c (c.bc - 1)) (c.bs - (X : Int).toNat)) (nU (CW.w_bs (CW.w_bc c (c.bc - 1)) (c.bs - (X : Int).toNat)).gc v (X : Int))).bc ∧ (X : Int).toNat ≤ (CW.w_gc (CW.w_bs (CW.w_bc c (c.bc - 1)) (c.bs - (X : Int).toNat)) (nU (CW.w_bs (CW.w_bc c (c.bc - 1)) (c.bs - (X : Int).toNat)).gc v (X : Int))).bs from ⟨⟨by omega, by omega⟩, by show 1 ≤ c.bc - 1; omega, by show (X : Int).toNat ≤ c.bs - (X : Int).toNat; omega⟩)]
    have ec : CW.w_gd (CW.w_bs (CW.w_bc (CW.w_gc (CW.w_bs (CW.w_bc c (c.bc - 1)) (c.bs - (X : Int).toNat)) (nU (CW.w_bs (CW.w_bc c (c.bc - 1)) (c.bs - (X : Int).toNat)).gc v (X : Int))) ((CW.w_gc (CW.w_bs (CW.w_bc c (c.bc - 1)) (c.bs - (X : Int).toNat)) (nU (CW.w_bs (CW.w_bc c (c.bc - 1)) (c.bs - (X : Int).toNat)).gc v (X : Int))).bc - 1)) ((CW.w_gc (CW.w_bs (CW.w_bc c (c.bc - 1)) (c.bs - (X : Int).toNat)) (nU (CW.w_bs (CW.w_bc c (c.bc - 1)) (c.bs - (X : Int).toNat)).gc v (X : Int))).bs - (X : Int).toNat)) (nU (CW.w_bs (CW.w_bc (CW.w_gc (CW.w_bs (CW.w_bc c (c.bc - 1)) (c.bs - (X : Int).toNat)) (nU (CW.w_bs (CW.w_bc c (c.bc - 1)) (c.bs - (X : Int).toNat)).gc v (X : Int))) ((CW.w_gc (CW.w_bs (CW.w_bc c (c.bc - 1)) (c.bs - (X : Int).toNat)) (nU (CW.w_bs (CW.w_bc c (c.bc - 1)) (c.bs - (X : Int).toNat)).gc v (X : Int))).bc - 1)) ((CW.w_gc (CW.w_bs (CW.w_bc c (c.bc - 1)) (c.bs - (X : Int).toNat)) (nU (CW.w_bs (CW.w_bc c (c.bc - 1)) (c.bs - (X : Int).toNat)).gc v (X : Int))).bs - (X : Int).toNat)).gd v (X : Int)) = zq_gcw c v X (c.bc - 1 - 1) (c.bs - (X : Int).toNat - (X : Int).toNat) := rfl
    rw [ec]
    have est2 : WS.w_gd_there (WS.w_gd_numbers (zq_gsw S v L W nm (S.gd_there v) (S.gd_numbers v)) (nU (zq_gsw S v L W nm (S.gd_there v) (S.gd_numbers v)).gd_numbers v (fun _ => 0))) (nU (zq_gsw S v L W nm (S.gd_there v) (S.gd_numbers v)).gd_there v (fun _ => 0)) = zq_gsw S v L W nm (fun _ => 0) (fun _ => 0) := by
      have q1 : nU (nU S.gd_numbers v (S.gd_numbers v)) v (fun _ => (0 : Int64)) = nU S.gd_numbers v (fun _ => 0) := by funext j; unfold nU; split <;> rfl
      have q2 : nU (nU S.gd_there v (S.gd_there v)) v (fun _ => (0 : Int)) = nU S.gd_there v (fun _ => 0) := by funext j; unfold nU; split <;> rfl
      show WS.w_gd_there (WS.w_gd_numbers _ (nU (nU S.gd_numbers v (S.gd_numbers v)) v (fun _ => 0))) (nU (nU S.gd_there v (S.gd_there v)) v (fun _ => 0)) = _
      rw [q1, q2]; rfl
    rw [est2]
    have gX : (zq_gcw c v X (c.bc - 1 - 1) (c.bs - (X : Int).toNat - (X : Int).toNat)).gd v = X := nU_at _ _ _
    have gY : (zq_gcw c v X (c.bc - 1 - 1) (c.bs - (X : Int).toNat - (X : Int).toNat)).gc v = X := nU_at _ _ _
    obtain ⟨th', a1, a2, a3⟩ := zq_E_sh91 (c := zq_gcw c v X (c.bc - 1 - 1) (c.bs - (X : Int).toNat - (X : Int).toNat)) (S := S) (v := v) (L := L) (W := W) (nm := nm) (nu := fun _ => 0) (E := E) (by rw [gX]; omega) E fU 0 (fun _ => 0) (by omega) (zq_fU_gt (by omega))
    refine ⟨_, th', fun _ => 0, a1, ⟨X, _, _, rfl⟩, ⟨?_, ?_, fun j hj => ?_, g4, g5⟩, by rw [gX, gY]; omega, fun j h1 h2 => a2 j h1 (by omega)⟩
    · have ep : zq_potC (zq_gcw c v X (c.bc - 1 - 1) (c.bs - (X : Int).toNat - (X : Int).toNat)) = zq_potC c + (2 * zq_gL X - 2 * zq_gL (c.gc v)) := by
        show zq_gL c.tc + zq_gL c.oc + zq_gL c.mo + zq_sumG (fun j => 2 * zq_gL ((nU c.gc v (X : Int)) j)) 19 = zq_gL c.tc + zq_gL c.oc + zq_gL c.mo + zq_sumG (fun j => 2 * zq_gL (c.gc j)) 19 + _
        rw [zq_sumG_upd (fun x => 2 * zq_gL x) c.gc v X 19, if_pos hv]; omega
      have hgl : zq_gL (c.gc v) + 1 ≤ zq_gL X := by
        by_cases z : c.gc v ≤ 0
        · have : zq_gL (c.gc v) = 0 := by unfold zq_gL; rw [if_pos z]
          rw [this]; unfold zq_gL; rw [if_neg (by omega)]; omega
        · by_cases z2 : 2 * c.gc v ≤ X
          · have := zq_gL_mono z2; rw [zq_gL_two (by omega)] at this; exact this
          · have hX2 : X = 16384 := by omega
            have h15 : zq_gL ((16384 : Nat) : Int) = 15 := by decide
            have h14 : zq_gL (c.gc v) ≤ 14 := by
              have := zq_gL_mono (x := c.gc v) (y := 16383) (by omega)
              have e : zq_gL 16383 = 14 := by decide
              omega
            rw [hX2]; omega
      rw [ep]
      show _ ≤ ((c.bc - 1 - 1 : Nat) : Int) + _
      omega
    · have ep : zq_potS (zq_gcw c v X (c.bc - 1 - 1) (c.bs - (X : Int).toNat - (X : Int).toNat)) = zq_potS c + (zq_gP X - zq_gP (c.gc v)) := by
        show 2 * c.tc + 2 * c.oc + 2 * c.mo + (if c.mo = 16384 then 16384 else 0) + zq_sumG (fun j => zq_gP ((nU c.gc v (X : Int)) j)) 19 = 2 * c.tc + 2 * c.oc + 2 * c.mo + (if c.mo = 16384 then 16384 else 0) + zq_sumG (fun j => zq_gP (c.gc j)) 19 + _
        rw [zq_sumG_upd zq_gP c.gc v X 19, if_pos hv]; omega
      have hgp : 2 * (X : Int) ≤ zq_gP X - zq_gP (c.gc v) := by
        unfold zq_gP
        have n1 : ¬ c.gc v = 16384 := by omega
        rw [if_neg n1]
        by_cases z : (X : Int) = 16384
        · rw [if_pos z]; omega
        · rw [if_neg z]; omega
      rw [ep]
      show _ ≤ ((c.bs - (X : Int).toNat - (X : Int).toNat : Nat) : Int) + _
      omega
    · by_cases z : j = v
      · subst z; rw [gX, gY]; omega
      · have q1 : (zq_gcw c v X (c.bc - 1 - 1) (c.bs - (X : Int).toNat - (X : Int).toNat)).gc j = c.gc j := nU_ne _ _ _ _ z
        have q2 : (zq_gcw c v X (c.bc - 1 - 1) (c.bs - (X : Int).toNat - (X : Int).toNat)).gd j = c.gd j := nU_ne _ _ _ _ z
        rw [q1, q2]; exact g3 j hj
  · rw [if_neg c1, if_pos (by omega)]
    exact stay (by omega)
set_option maxRecDepth 100000 in
def zq_ltA (v : List Int) (b : Int) : Int := if 0 ≤ b ∧ b < v.length then v.getD b.toNat (-1) else -1
section
variable {T : Int → Int} {n : Int} {lb : Nat → zq_LB} {c : CW} {S : WS} {M : MS}
set_option maxRecDepth 100000 in
theorem zq_e_valLen2 (h : zq_RLb c S M lb) {i : Nat} (hi : i < c.N) {kk : Int} {v : List Int} (hv : zq_lbK (lb i) kk v) : s_Se_valueLength c S i kk = some ((v.length : Int), S) := by
  rcases hv with ⟨h1, h2⟩ | ⟨k, x, h1, h2, h3⟩
  · rw [h1, h2, s_Se_valueLength, if_pos (by decide)]
    try rfl
  · rw [h1, h3]; exact zq_e_valueLen h hi h2
set_option maxRecDepth 100000 in
theorem zq_e_valLetter2 (h : zq_RLb c S M lb) {i : Nat} (hi : i < c.N) {kk : Int} {v : List Int} (hv : zq_lbK (lb i) kk v) {b : Int} (hb : iR b) : s_Se_valueLetter c S i kk b = some (zq_ltA v b, S) := by
  unfold zq_ltA
  rcases hv with ⟨h1, h2⟩ | ⟨k, x, h1, h2, h3⟩
  · rw [h1, h2, s_Se_valueLetter, if_pos (by decide), if_neg (by intro z; have := z.2; simp at this; omega)]
  · rw [h1, h3, zq_e_valueLetter h hi h2 hb]
    by_cases c1 : 0 ≤ b ∧ b < x.2.length
    · rw [dif_pos c1, if_pos c1, List.getD_eq_getElem?_getD, List.getElem?_eq_getElem (by omega)]; rfl
    · rw [dif_neg c1, if_neg c1]
set_option maxRecDepth 100000 in
theorem zq_lbK_len (h : zq_RLb c S M lb) {i : Nat} (hi : i < c.N) {kk : Int} {v : List Int} (hv : zq_lbK (lb i) kk v) : v.length ≤ 24 ∧ (∀ b ∈ v, zq_wdB b = true) ∧ -1 ≤ kk ∧ kk ≤ 6 := by
  have o := (h.2.2 i hi).1
  rcases hv with ⟨h1, h2⟩ | ⟨k, x, h1, h2, h3⟩
  · rw [h2]; exact ⟨by simp, by simp, by omega, by omega⟩
  · have := o.2.1 x (List.mem_of_getElem? h2)
    have hk := (List.getElem?_eq_some_iff.mp h2).1
    have h6 := o.1
    rw [h3]; exact ⟨this.2.1.2, this.2.2.2, by omega, by omega⟩
set_option maxRecDepth 100000 in
/-- the name of a label, letter by letter -/
theorem zq_encP_nam : ∀ (l : zq_LB) (k : Nat) (x : List Int × List Int) (j : Nat) (b : Int), l[k]? = some x → x.1[j]? = some b → (zq_encP l)[(zq_posP l k).toNat + j]? = some b
  | [], k, x, j, b, h, _ => by simp at h
  | [y], 0, x, j, b, h, hb => by
    simp at h; subst h
    have hj := (List.getElem?_eq_some_iff.mp hb).1
    simp only [zq_posP, zq_encP]
    rw [List.getElem?_append_left (by show 0 + j < y.1.length; omega), show (0 : Int).toNat + j = j by show 0 + j = j; omega]
    exact hb
  | [y], k + 1, x, j, b, h, _ => by simp at h
  | y :: z :: r, 0, x, j, b, h, hb => by
    simp at h; subst h
    have hj := (List.getElem?_eq_some_iff.mp hb).1
    simp only [zq_posP, zq_encP]
    rw [List.getElem?_append_left (by show 0 + j < y.1.length; omega), show (0 : Int).toNat + j = j by show 0 + j = j; omega]
    exact hb
  | y :: z :: r, k + 1, x, j, b, h, hb => by
    have ih := zq_encP_nam (z :: r) k x j b (by simpa using h) hb
    have h0 : 0 ≤ zq_posP (z :: r) k := by
      have : ∀ (l : zq_LB) (k : Nat), 0 ≤ zq_posP l k := by
        intro l
        induction l with
        | nil => intro k; simp [zq_posP]
        | cons w ws ihw => intro k; cases k with
          | zero => simp [zq_posP]
          | succ k => have := ihw k; simp only [zq_posP]; omega
      exact this _ _
    rw [zq_encP, zq_posP, List.getElem?_append_right (by omega)]
    have e : ((y.1.length : Int) + 1 + y.2.length + 1 + zq_posP (z :: r) k).toNat + j - y.1.length = (y.2.length + 1 + ((zq_posP (z :: r) k).toNat + j)) + 1 := by omega
    rw [e, List.getElem?_cons_succ, List.getElem?_append_right (by omega), show y.2.length + 1 + ((zq_posP (z :: r) k).toNat + j) - y.2.length = ((zq_posP (z :: r) k).toNat + j) + 1 by omega, List.getElem?_cons_succ]
    exact ih
set_option maxRecDepth 100000 in
theorem zq_E_onTape (h : zq_RLb c S M lb) (ht : zq_tpI c S) (hT : zq_bt S = T) (hn : S.tp_size = n) {i : Nat} (hi : i < c.N) {k : Nat} {x : List Int × List Int} (hx : (lb i)[k]? = some x) {a : Int} (ha : 0 ≤ a ∧ a + x.1.length ≤ 100000) : ∀ (f j : Nat), j ≤ x.1.length → x.1.length - j < f → q_Se_isOnTape_3 c f i (zq_posP (lb i) k) a x.1.length j S = some (zq_b01 (x.1.drop j = zq_slF T (x.1.length - j) (a + j)), S)
  | 0, j => by omega
  | f + 1, j => by
    intro h1 hf
    obtain ⟨q1, ⟨q2, q3, q4, q5⟩, -⟩ := h.2.2 i hi
    have hL := zq_okB_len q1
    have hx2 := q1.2.1 x (List.mem_of_getElem? hx)
    have hp := zq_posP_le (lb i) k x (fun y hy => ⟨(q1.2.1 y hy).1.2, (q1.2.1 y hy).2.1.2⟩) hx
    rw [q_Se_isOnTape_3, zq_w32i (z := (x.1.length : Int)) (by omega) (by omega), zq_w32i (z := (j : Int)) (by omega) (by omega)]
    by_cases c1 : x.1.length ≤ j
    · rw [if_pos (by omega), show x.1.length - j = 0 by omega, List.drop_eq_nil_of_le c1, zq_b01_t (by simp [zq_slF])]
    · have hy : x.1[j]? = some (x.1[j]'(by omega)) := List.getElem?_eq_getElem _
      have hv := q2 _ _ (zq_encP_nam (lb i) k x j _ hx hy)
      have hw := (zq_wdB_iff _).mp (hx2.2.2.1 _ (List.mem_of_getElem? hy))
      have e : s_Se_letterAt c S i (zq_posP (lb i) k + j) = some (x.1[j]'(by omega), S) := by
        rw [s_Se_letterAt, zq_w32i (z := zq_posP (lb i) k + j) (by omega) (by omega), if_neg (by omega), q3, zq_w32i (z := ((zq_encP (lb i)).length : Int)) (by omega) (by omega), if_neg (by omega), if_pos (by omega), ← hv]
        congr 3; omega
      have eb := zq_e_byteAt (c := c) (S := S) ht (i := a + j) ⟨by omega, by omega⟩
      rw [hT] at eb
      have hTR := zq_bt_R S (a + j)
      rw [hT] at hTR
      rw [if_neg (by omega), zq_mb2_eq e, zq_mb2_eq eb, List.drop_eq_getElem_cons (show j < x.1.length by omega), show x.1.length - j = (x.1.length - (j + 1)) + 1 by omega, zq_slF]
      have ih := zq_E_onTape h ht hT hn hi hx ha f (j + 1) (by omega) (by omega)
      rw [show ((j + 1 : Nat) : Int) = (j : Int) + 1 by omega, show a + ((j : Int) + 1) = a + j + 1 by omega] at ih
      generalize x.1[j]'(by omega) = b at *
      rw [zq_w32i (z := b) (by omega) (by omega), zq_w32i (z := T (a + j)) (by omega) (by omega)]
      by_cases c2 : b = T (a + j)
      · rw [if_pos c2, ih]
        have : zq_b01 (x.1.drop (j + 1) = zq_slF T (x.1.length - (j + 1)) (a + j + 1)) = zq_b01 (b :: x.1.drop (j + 1) = T (a + j) :: zq_slF T (x.1.length - (j + 1)) (a + j + 1)) := zq_b01_i _ _ (by rw [List.cons.injEq]; exact ⟨fun z => ⟨c2, z⟩, fun z => z.2⟩)
        rw [this]
      · rw [if_neg c2, zq_b01_f (by rw [List.cons.injEq]; exact fun z => c2 z.1)]
set_option maxRecDepth 100000 in
theorem zq_E_labelNamed (h : zq_RLb c S M lb) (ht : zq_tpI c S) (hT : zq_bt S = T) (hn : S.tp_size = n) (hn2 : n ≤ 10240) {i : Nat} (hi : i < c.N) {y : zq_NM} (hy : 0 ≤ y.1 ∧ 0 ≤ y.2 ∧ y.1 + y.2 ≤ n) : ∀ (rest : zq_LB) (f k : Nat), (lb i).drop k = rest → k + rest.length = (lb i).length → rest.length < f → (∀ x ∈ (lb i).take k, x.1 ≠ zq_nmx T y) → ∃ kk, q_Se_labelNamed_3 c f i y.1 y.2 k S = some (kk, S) ∧ zq_lbK (lb i) kk (zq_vOf (lb i) (zq_nmx T y))
  | rest, 0, k => by omega
  | [], f + 1, k => by
    intro h1 h2 h3 h4
    obtain ⟨q1, ⟨q2, q3, q4, q5⟩, -⟩ := h.2.2 i hi
    have h6 := q1.1
    simp only [List.length_nil, Nat.add_zero] at h2
    rw [q_Se_labelNamed_3, q4, if_pos (by rw [h2]; exact Int.le_refl _)]
    refine ⟨-1, rfl, Or.inl ⟨rfl, ?_⟩⟩
    rw [h2, List.take_length] at h4
    unfold zq_vOf
    rw [List.find?_eq_none.mpr (fun x hx => by simp; exact h4 x hx)]
  | x :: rest, f + 1, k => by
    intro h1 h2 h3 h4
    obtain ⟨q1, ⟨q2, q3, q4, q5⟩, -⟩ := h.2.2 i hi
    have h6 := q1.1
    simp only [List.length_cons] at h2 h3
    have hx : (lb i)[k]? = some x := by
      have : ((lb i).drop k)[0]? = some x := by rw [h1]; rfl
      rw [List.getElem?_drop] at this; simpa using this
    have hx2 := q1.2.1 x (List.mem_of_getElem? hx)
    have edrop : (lb i).drop (k + 1) = rest := by rw [← List.drop_drop, h1]; rfl
    obtain ⟨z1, z2, z3⟩ := q5 k x hx
    have g : (0 : Int) ≤ (k : Int) ∧ (k : Int) < ((lb i).length : Int) := by omega
    have enm : zq_nmx T y = zq_slF T y.2.toNat y.1 := by unfold zq_nmx; rw [zq_sl_F]
    rw [q_Se_labelNamed_3, q4, zq_w32i (z := ((lb i).length : Int)) (by omega) (by omega), zq_w32i (z := (k : Int)) (by omega) (by omega), if_neg (by omega), if_neg (by omega), if_pos g, if_pos g, z1, z2, show zq_posP (lb i) k + (x.1.length : Int) - zq_posP (lb i) k = x.1.length by omega, zq_w32i (z := (x.1.length : Int)) (by omega) (by omega), zq_w32i (z := y.2) (by omega) (by omega)]
    have nxt : x.1 ≠ zq_nmx T y → ∃ kk, q_Se_labelNamed_62 c (q_Se_labelNamed_3 c f) i y.1 y.2 k S = some (kk, S) ∧ zq_lbK (lb i) kk (zq_vOf (lb i) (zq_nmx T y)) := by
      intro hne
      rw [q_Se_labelNamed_62]
      have := zq_E_labelNamed h ht hT hn hn2 hi hy rest f (k + 1) edrop (by omega) (by omega) (fun w hw => by
        rw [List.take_add_one, hx] at hw
        rcases List.mem_append.mp hw with z | z
        · exact h4 w z
        · simp at z; subst z; exact hne)
      rw [show ((k + 1 : Nat) : Int) = (k : Int) + 1 by omega] at this
      exact this
    by_cases c1 : (x.1.length : Int) = y.2
    · have ot := zq_E_onTape h ht hT hn hi hx (a := y.1) (by omega) fU 0 (by omega) (zq_fU_gt (by omega))
      rw [List.drop_zero, Nat.sub_zero, show ((0 : Nat) : Int) = 0 from rfl, Int.add_zero] at ot
      have ot' : s_Se_isOnTape c S i (zq_posP (lb i) k) y.1 y.2 = some (zq_b01 (x.1 = zq_nmx T y), S) := by
        rw [s_Se_isOnTape, ← c1, ot]
        have : zq_b01 (x.1 = zq_slF T x.1.length y.1) = zq_b01 (x.1 = zq_nmx T y) := zq_b01_i _ _ (by rw [enm, show y.2.toNat = x.1.length by omega])
        rw [this]
      rw [if_pos c1, if_pos g, zq_mb2_eq ot']
      by_cases c2 : x.1 = zq_nmx T y
      · rw [if_neg (by rw [zq_b01_0]; simp [c2])]
        refine ⟨k, rfl, Or.inr ⟨k, x, rfl, hx, ?_⟩⟩
        unfold zq_vOf
        have : (lb i).find? (fun x => x.1 == zq_nmx T y) = some x := by
          rw [← List.take_append_drop k (lb i), List.find?_append, h1]
          rw [List.find?_eq_none.mpr (fun w hw => by simp; exact h4 w hw), List.find?_cons_of_pos (by simp [c2])]; rfl
        rw [this]
      · rw [if_pos (by rw [zq_b01_0]; exact c2)]; exact nxt c2
    · rw [if_neg c1]
      exact nxt (fun z => c1 (by rw [z, enm, zq_slF_len]; omega))
set_option maxRecDepth 100000 in
theorem zq_e_labelNamed2 (h : zq_RLb c S M lb) (ht : zq_tpI c S) (hT : zq_bt S = T) (hn : S.tp_size = n) (hn2 : n ≤ 10240) {i : Nat} (hi : i < c.N) {y : zq_NM} (hy : 0 ≤ y.1 ∧ 0 ≤ y.2 ∧ y.1 + y.2 ≤ n) : ∃ kk, s_Se_labelNamed c S i y.1 y.2 = some (kk, S) ∧ zq_lbK (lb i) kk (zq_vOf (lb i) (zq_nmx T y)) :=
  zq_E_labelNamed h ht hT hn hn2 hi hy (lb i) fU 0 (by simp) (by simp) (zq_fU_gt (by have := (h.2.2 i hi).1.1; omega)) (by simp)
set_option maxRecDepth 100000 in
theorem zq_ltA_lex (a b : List Int) (wa : ∀ x ∈ a, 0 ≤ x ∧ x ≤ 200) (wb : ∀ x ∈ b, 0 ≤ x ∧ x ≤ 200) (j : Nat) (hj : j < max a.length b.length) (he : a.take j = b.take j) (hja : j ≤ a.length) (hjb : j ≤ b.length) : (zq_ltA a j = zq_ltA b j → j < a.length ∧ j < b.length ∧ a.take (j + 1) = b.take (j + 1)) ∧ (zq_ltA a j ≠ zq_ltA b j → zq_lexc (a.drop j) (b.drop j) = cmpI (zq_ltA a j) (zq_ltA b j)) ∧ (-1 ≤ zq_ltA a j ∧ zq_ltA a j ≤ 200 ∧ -1 ≤ zq_ltA b j ∧ zq_ltA b j ≤ 200) := by
  unfold zq_ltA
  by_cases c1 : j < a.length
  · have ha : a[j]? = some (a[j]'c1) := List.getElem?_eq_getElem _
    have va := wa _ (List.mem_of_getElem? ha)
    rw [if_pos (by omega), Int.toNat_natCast, List.getD_eq_getElem?_getD, ha]
    by_cases c2 : j < b.length
    · have hb : b[j]? = some (b[j]'c2) := List.getElem?_eq_getElem _
      have vb := wb _ (List.mem_of_getElem? hb)
      rw [if_pos (by omega)]
      rw [show b.getD j (-1) = b[j]'c2 by rw [List.getD_eq_getElem?_getD, hb]; rfl]
      show (a[j]'c1 = b[j]'c2 → _) ∧ (a[j]'c1 ≠ b[j]'c2 → zq_lexc (a.drop j) (b.drop j) = cmpI (a[j]'c1) (b[j]'c2)) ∧ (-1 ≤ a[j]'c1 ∧ a[j]'c1 ≤ 200 ∧ -1 ≤ b[j]'c2 ∧ b[j]'c2 ≤ 200)
      refine ⟨fun z => ⟨c1, c2, ?_⟩, fun z => ?_, by omega, by omega, by omega, by omega⟩
      · rw [List.take_add_one, List.take_add_one, ha, hb, he, z]
      · rw [List.drop_eq_getElem_cons c1, List.drop_eq_getElem_cons c2, zq_lexc]; unfold cmpI
        rw [if_neg z, if_neg z]
    · rw [if_neg (by omega)]
      show (a[j]'c1 = -1 → _) ∧ (a[j]'c1 ≠ -1 → zq_lexc (a.drop j) (b.drop j) = cmpI (a[j]'c1) (-1)) ∧ (-1 ≤ a[j]'c1 ∧ a[j]'c1 ≤ 200 ∧ (-1 : Int) ≤ -1 ∧ (-1 : Int) ≤ 200)
      refine ⟨fun z => by omega, fun z => ?_, by omega, by omega, by omega, by omega⟩
      rw [List.drop_eq_getElem_cons c1, List.drop_eq_nil_of_le (show b.length ≤ j by omega), zq_lexc]; unfold cmpI
      rw [if_neg (by omega), if_neg z]
  · have c2 : j < b.length := by omega
    have hb : b[j]? = some (b[j]'c2) := List.getElem?_eq_getElem _
    have vb := wb _ (List.mem_of_getElem? hb)
    rw [if_neg (by omega), if_pos (by omega), Int.toNat_natCast, List.getD_eq_getElem?_getD, hb]
    show ((-1 : Int) = b[j]'c2 → _) ∧ ((-1 : Int) ≠ b[j]'c2 → zq_lexc (a.drop j) (b.drop j) = cmpI (-1) (b[j]'c2)) ∧ ((-1 : Int) ≤ -1 ∧ (-1 : Int) ≤ 200 ∧ -1 ≤ b[j]'c2 ∧ b[j]'c2 ≤ 200)
    refine ⟨fun z => by omega, fun z => ?_, by omega, by omega, by omega, by omega⟩
    rw [List.drop_eq_nil_of_le (show a.length ≤ j by omega), List.drop_eq_getElem_cons c2, zq_lexc]; unfold cmpI
    rw [if_pos (by omega)]
set_option maxRecDepth 100000 in
theorem zq_lexc_app (p a b : List Int) : zq_lexc (p ++ a) (p ++ b) = zq_lexc a b := by
  induction p with
  | nil => rfl
  | cons x r ih => rw [List.cons_append, List.cons_append, zq_lexc, if_neg (by omega), if_pos rfl]; exact ih
set_option maxRecDepth 100000 in
theorem zq_E_cmpVal (h : zq_RLb c S M lb) {i i' : Nat} (hi : i < c.N) (hi' : i' < c.N) {zq_ka kb : Int} {a b : List Int} (ha : zq_lbK (lb i) zq_ka a) (hb : zq_lbK (lb i') kb b) : ∀ (f j : Nat), j ≤ max a.length b.length → max a.length b.length - j < f → (j ≤ a.length ∧ j ≤ b.length ∧ a.take j = b.take j) → q_Se_compareValue_18 c f i zq_ka i' kb (max (a.length : Int) (b.length : Int)) j S = some (zq_lexc a b, S)
  | 0, j => by omega
  | f + 1, j => by
    intro h1 hf hj
    have la := zq_lbK_len h hi ha; have lb' := zq_lbK_len h hi' hb
    rw [q_Se_compareValue_18, zq_w32i (z := max (a.length : Int) (b.length : Int)) (by omega) (by omega), zq_w32i (z := (j : Int)) (by omega) (by omega)]
    have esp : zq_lexc a b = zq_lexc (a.drop j) (b.drop j) := by
      have e1 : a = a.take j ++ a.drop j := (List.take_append_drop j a).symm
      have e2 : b = a.take j ++ b.drop j := by rw [hj.2.2]; exact (List.take_append_drop j b).symm
      have := zq_lexc_app (a.take j) (a.drop j) (b.drop j)
      rw [← e1, ← e2] at this; exact this
    by_cases c1 : max a.length b.length ≤ j
    · rw [if_pos (by omega), esp, List.drop_eq_nil_of_le (by omega), List.drop_eq_nil_of_le (by omega)]; rfl
    · rw [if_neg (by omega), zq_mb2_eq (zq_e_valLetter2 h hi ha ⟨by omega, by omega⟩), zq_mb2_eq (zq_e_valLetter2 h hi' hb ⟨by omega, by omega⟩)]
      obtain ⟨l1, l2, l3⟩ := zq_ltA_lex a b (fun x hx => by have := (zq_wdB_iff x).mp (la.2.1 x hx); omega) (fun x hx => by have := (zq_wdB_iff x).mp (lb'.2.1 x hx); omega) j (by omega) hj.2.2 hj.1 hj.2.1
      rw [zq_w32i (z := zq_ltA a j) (by omega) (by omega), zq_w32i (z := zq_ltA b j) (by omega) (by omega)]
      by_cases c2 : zq_ltA a j = zq_ltA b j
      · have e : cmpI (zq_ltA a j) (zq_ltA b j) = 0 := by unfold cmpI; rw [c2, if_neg (by omega), if_pos rfl]
        rw [e, if_pos (by decide)]
        obtain ⟨m1, m2, m3⟩ := l1 c2
        have ih := zq_E_cmpVal h hi hi' ha hb f (j + 1) (by omega) (by omega) ⟨by omega, by omega, m3⟩
        rw [show ((j + 1 : Nat) : Int) = (j : Int) + 1 by omega] at ih
        exact ih
      · have e := l2 c2
        have e0 : cmpI (zq_ltA a j) (zq_ltA b j) = -1 ∨ cmpI (zq_ltA a j) (zq_ltA b j) = 1 := by
          unfold cmpI
          by_cases q : zq_ltA a j < zq_ltA b j
          · rw [if_pos q]; exact Or.inl rfl
          · rw [if_neg q, if_neg c2]; exact Or.inr rfl
        rw [if_neg (by rcases e0 with z | z <;> rw [z] <;> decide), esp, e]
set_option maxRecDepth 100000 in
theorem zq_e_cmpVal (h : zq_RLb c S M lb) {i i' : Nat} (hi : i < c.N) (hi' : i' < c.N) {zq_ka kb : Int} {a b : List Int} (ha : zq_lbK (lb i) zq_ka a) (hb : zq_lbK (lb i') kb b) : s_Se_compareValue c S i zq_ka i' kb = some (zq_lexc a b, S) := by
  have la := zq_lbK_len h hi ha; have lb' := zq_lbK_len h hi' hb
  rw [s_Se_compareValue, zq_mb2_eq (zq_e_valLen2 h hi ha), zq_mb2_eq (zq_e_valLen2 h hi' hb), zq_w32i (z := (a.length : Int)) (by omega) (by omega), zq_w32i (z := (b.length : Int)) (by omega) (by omega)]
  exact zq_E_cmpVal h hi hi' ha hb fU 0 (by omega) (zq_fU_gt (by omega)) ⟨by omega, by omega, by simp⟩
set_option maxRecDepth 100000 in
/-- the labels of a series by the names -/
def zq_GL (T : Int → Int) (lb : Nat → zq_LB) (ns : List zq_NM) (zq_gl : Int → Int) (i : Nat) : Prop := ∀ (m : Nat) (x : zq_NM), ns[m]? = some x → zq_lbK (lb i) (zq_gl ((i : Int) * 6 + m)) (zq_vOf (lb i) (zq_nmx T x))
set_option maxRecDepth 100000 in
theorem zq_E_grCmp (h : zq_RLb c S M lb) {ns : List zq_NM} (hns : S.gr_nameCount = ns.length ∧ ns.length ≤ 6) {i i' : Nat} (hi : i < c.N) (hi' : i' < c.N) (g1 : zq_GL T lb ns S.gr_labels i) (g2 : zq_GL T lb ns S.gr_labels i') : ∀ (f k : Nat), k ≤ ns.length → ns.length - k < f → q_Gr_compare_33 c f i i' i i' k S = some (zq_kcmp ((ns.drop k).map (fun x => zq_vOf (lb i) (zq_nmx T x))) ((ns.drop k).map (fun x => zq_vOf (lb i') (zq_nmx T x))), S)
  | 0, k => by omega
  | f + 1, k => by
    intro h1 hf
    have hN := h.1.1
    rw [q_Gr_compare_33, hns.1, zq_w32i (z := (ns.length : Int)) (by omega) (by omega), zq_w32i (z := (k : Int)) (by omega) (by omega)]
    by_cases c1 : ns.length ≤ k
    · rw [if_pos (by omega), List.drop_eq_nil_of_le c1]; rfl
    · have hk : ns[k]? = some (ns[k]'(by omega)) := List.getElem?_eq_getElem _
      have l1 := g1 k _ hk; have l2 := g2 k _ hk
      rw [List.drop_eq_getElem_cons (show k < ns.length by omega), List.map_cons, List.map_cons, zq_kcmp]
      generalize ns[k]'(by omega) = y at *
      have lo : ∀ j : Nat, j < c.N → s_Gr_labelOf c S (j : Int) (k : Int) = some (S.gr_labels ((j : Int) * 6 + k), S) := fun j hj => by
        rw [s_Gr_labelOf, zq_w32i (z := (j : Int)) (by omega) (by omega), if_neg (by omega), if_neg (by omega), zq_w32i (z := (k : Int)) (by omega) (by omega), if_neg (by omega), hns.1, zq_w32i (z := (ns.length : Int)) (by omega) (by omega), if_neg (by omega), if_pos (by omega)]
      have R := zq_lexc_R (zq_vOf (lb i) (zq_nmx T y)) (zq_vOf (lb i') (zq_nmx T y))
      rw [if_neg (by omega), zq_mb2_eq (lo i hi), zq_mb2_eq (lo i' hi'), zq_mb2_eq (zq_e_cmpVal h hi hi' l1 l2), zq_w32i (z := zq_lexc (zq_vOf (lb i) (zq_nmx T y)) (zq_vOf (lb i') (zq_nmx T y))) (by omega) (by omega)]
      by_cases c2 : zq_lexc (zq_vOf (lb i) (zq_nmx T y)) (zq_vOf (lb i') (zq_nmx T y)) = 0
      · rw [if_pos c2, if_pos c2]
        have ih := zq_E_grCmp h hns hi hi' g1 g2 f (k + 1) (by omega) (by omega)
        rw [show ((k + 1 : Nat) : Int) = (k : Int) + 1 by omega] at ih
        exact ih
      · rw [if_neg c2, if_neg c2]
set_option maxRecDepth 100000 in
theorem zq_e_grCmp (h : zq_RLb c S M lb) {ns : List zq_NM} (hns : S.gr_nameCount = ns.length ∧ ns.length ≤ 6) {i i' : Nat} (hi : i < c.N) (hi' : i' < c.N) (g1 : zq_GL T lb ns S.gr_labels i) (g2 : zq_GL T lb ns S.gr_labels i') : s_Gr_compare c S i i' = some (zq_kcmp (zq_keyOf T lb ns i) (zq_keyOf T lb ns i'), S) := by
  have hN := h.1.1
  rw [s_Gr_compare, if_pos ⟨⟨by omega, by omega⟩, hN⟩, if_pos ⟨⟨by omega, by omega⟩, hN⟩]
  have := zq_E_grCmp h hns hi hi' g1 g2 fU 0 (by omega) (zq_fU_gt (by omega))
  rw [List.drop_zero] at this
  rw [Int.toNat_natCast, Int.toNat_natCast]
  exact this
end
set_option maxRecDepth 100000 in
def zq_grw (S : WS) (zq_gl od ld : Int → Int) (sz : Int) (go : Int → Int) : WS := WS.w_gr_groupOf (WS.w_gr_size (WS.w_gr_leaders (WS.w_gr_order (WS.w_gr_labels S zq_gl) od) ld) sz) go
section
variable {k0 : Nat} {T : Int → Int} {n : Int} {lb : Nat → zq_LB} {c : CW} {M : MS} {L : List Int}
set_option maxRecDepth 100000 in
theorem zq_E_fl {S : WS} (h : zq_RLb c S M lb) (hp : zq_PB k0 T n c S L) {v : Nat} {ns : List zq_NM} (hr : zq_NR n L v ns) (hnc : S.gr_nameCount = ns.length) {i : Nat} (hi : i < c.N) (od ld : Int → Int) (sz : Int) (go : Int → Int) : ∀ (m f k : Nat) (zq_gl : Int → Int), k + m = ns.length → m < f → (∀ (q : Nat) (x : zq_NM), q < k → ns[q]? = some x → zq_lbK (lb i) (zq_gl ((i : Int) * 6 + q)) (zq_vOf (lb i) (zq_nmx T x))) → ∃ gl', q_Gr_findLabels_12 c f i v i k (zq_grw S zq_gl od ld sz go) = some ((), zq_grw S gl' od ld sz go) ∧ zq_GL T lb ns gl' i ∧ (∀ j, (j < (i : Int) * 6 ∨ (i : Int) * 6 + 6 ≤ j) → gl' j = zq_gl j)
  | m, 0, k, zq_gl => by omega
  | m, f + 1, k, zq_gl => by
    intro hm hf hk
    have h6 := hr.2.2.2
    have hN := h.1.1
    have e1 : (zq_grw S zq_gl od ld sz go).gr_nameCount = ns.length := hnc
    rw [q_Gr_findLabels_12, e1, zq_w32i (z := (ns.length : Int)) (by omega) (by omega), zq_w32i (z := (k : Int)) (by omega) (by omega)]
    cases m with
    | zero =>
      rw [if_pos (by omega)]
      exact ⟨zq_gl, rfl, fun q x hx => hk q x (by have := (List.getElem?_eq_some_iff.mp hx).1; omega) hx, fun _ _ => rfl⟩
    | succ m =>
      have hx : ns[k]? = some (ns[k]'(by omega)) := List.getElem?_eq_getElem _
      have hp' : zq_PB k0 T n c (zq_grw S zq_gl od ld sz go) L := hp
      have hnm := zq_w_nameAt hp' hr hx
      have hox := hr.2.2.1 _ (List.mem_of_getElem? hx)
      have h' : zq_RLb c (zq_grw S zq_gl od ld sz go) M lb := h
      obtain ⟨kk, l1, l2⟩ := zq_e_labelNamed2 h' hp'.2.1.1 hp'.2.1.2.1 hp'.2.1.2.2.1 hp'.2.1.2.2.2 hi hox
      rw [if_neg (by omega), zq_mb2_eq hnm.1, zq_mb2_eq hnm.2, zq_mb2_eq l1, if_pos ⟨by omega, by omega⟩]
      obtain ⟨gl', i1, i2, i3⟩ := zq_E_fl h hp hr hnc hi od ld sz go m f (k + 1) (aU zq_gl ((i : Int) * 6 + k) kk) (by omega) (by omega) (fun q x hq hx' => by
        by_cases z : q = k
        · subst z; rw [zq_aU_at]; rw [hx] at hx'; cases hx'; exact l2
        · rw [zq_aU_ne _ _ _ _ (by omega)]; exact hk q x (by omega) hx')
      rw [show ((k + 1 : Nat) : Int) = (k : Int) + 1 by omega] at i1
      refine ⟨gl', i1, i2, fun j hj => ?_⟩
      rw [i3 j hj, zq_aU_ne _ _ _ _ (by omega)]
set_option maxRecDepth 100000 in
/-- the order of the series -/
def zq_OI (T : Int → Int) (lb : Nat → zq_LB) (ns : List zq_NM) (v : Nat) (zq_gl od : Int → Int) (ol : List Nat) : Prop := (ol.length = v) ∧ (∀ (r x : Nat), ol[r]? = some x → od r = x ∧ x < v) ∧ (∀ i, i < v → i ∈ ol) ∧ ol.Pairwise (fun (a b : Nat) => zq_kcmp (zq_keyOf T lb ns (a : Int)) (zq_keyOf T lb ns (b : Int)) ≠ 1) ∧ (∀ i, i < v → zq_GL T lb ns zq_gl i)
set_option maxRecDepth 100000 in
theorem zq_E_bin {S : WS} (h : zq_RLb c S M lb) {ns : List zq_NM} (hns : S.gr_nameCount = ns.length ∧ ns.length ≤ 6) {zq_gl od ld : Int → Int} {sz : Int} {go : Int → Int} {v : Nat} (hv : v < c.N) {ol : List Nat} (ho : zq_OI T lb ns v zq_gl od ol) (hgv : zq_GL T lb ns zq_gl v) : ∀ (m f : Nat) (lo hi tn : Int), m ≤ 32 → tn = 32 - m → m < f → 0 ≤ lo → lo ≤ hi → hi ≤ v → hi - lo < (2 ^ m : Nat) → (∀ (r x : Nat), (r : Int) < lo → ol[r]? = some x → zq_kcmp (zq_keyOf T lb ns x) (zq_keyOf T lb ns v) ≠ 1) → (∀ (r x : Nat), hi ≤ (r : Int) → ol[r]? = some x → zq_kcmp (zq_keyOf T lb ns x) (zq_keyOf T lb ns v) = 1) → ∃ p : Nat, (p : Int) ≤ v ∧ q_Gr_putInOrder_7 c f v lo hi tn (zq_grw S zq_gl od ld sz go) = q_Gr_putInOrder_58 c v p (zq_grw S zq_gl od ld sz go) ∧ (∀ (r x : Nat), r < p → ol[r]? = some x → zq_kcmp (zq_keyOf T lb ns x) (zq_keyOf T lb ns v) ≠ 1) ∧ (∀ (r x : Nat), p ≤ r → ol[r]? = some x → zq_kcmp (zq_keyOf T lb ns x) (zq_keyOf T lb ns v) = 1)
  | m, 0, lo, hi, tn => by omega
  | m, f + 1, lo, hi, tn => by
    intro h1 h2 h3 h4 h5 h6 h7 hA hB
    have hN := h.1.1
    rw [q_Gr_putInOrder_7, zq_w32i (z := tn) (by omega) (by omega), zq_w32i (z := hi) (by omega) (by omega), zq_w32i (z := lo) (by omega) (by omega)]
    have fin : hi ≤ lo → ∃ p : Nat, (p : Int) ≤ v ∧ q_Gr_putInOrder_58 c v lo (zq_grw S zq_gl od ld sz go) = q_Gr_putInOrder_58 c v p (zq_grw S zq_gl od ld sz go) ∧ (∀ (r x : Nat), r < p → ol[r]? = some x → zq_kcmp (zq_keyOf T lb ns x) (zq_keyOf T lb ns v) ≠ 1) ∧ (∀ (r x : Nat), p ≤ r → ol[r]? = some x → zq_kcmp (zq_keyOf T lb ns x) (zq_keyOf T lb ns v) = 1) := by
      intro hle
      refine ⟨lo.toNat, by omega, by rw [show ((lo.toNat : Nat) : Int) = lo by omega], fun r x hr hx => hA r x (by omega) hx, fun r x hr hx => hB r x (by omega) hx⟩
    by_cases c1 : 32 ≤ tn
    · rw [if_pos c1]
      have hm0 : m = 0 := by omega
      subst hm0
      exact fin (by simp at h7; omega)
    · rw [if_neg c1]
      by_cases c2 : hi ≤ lo
      · rw [if_pos c2]; exact fin c2
      · rw [if_neg c2]
        have hd := zq_gDiv2 (a := lo + hi) (by omega) (by omega)
        rw [hd]
        have hmid0 : lo ≤ (lo + hi) / 2 := by omega
        have hmid1 : (lo + hi) / 2 < hi := by omega
        obtain ⟨md, hmd⟩ : ∃ md : Nat, (lo + hi) / 2 = md := ⟨((lo + hi) / 2).toNat, by omega⟩
        rw [hmd] at hmid0 hmid1 ⊢
        have hmdl : md < ol.length := by rw [ho.1]; omega
        have hx : ol[md]? = some (ol[md]'hmdl) := List.getElem?_eq_getElem _
        obtain ⟨x1, x2⟩ := ho.2.1 md _ hx
        obtain ⟨m', rfl⟩ : ∃ m', m = m' + 1 := ⟨m - 1, by omega⟩
        have h2p : (2 ^ (m' + 1) : Nat) = 2 * 2 ^ m' := by rw [Nat.pow_succ]; omega
        rw [h2p] at h7
        have e2 : (zq_grw S zq_gl od ld sz go).gr_order md = (ol[md]'hmdl : Nat) := x1
        have hc := zq_e_grCmp (c := c) (S := zq_grw S zq_gl od ld sz go) (M := M) (T := T) h hns (i := ol[md]'hmdl) (i' := v) (by omega) hv (ho.2.2.2.2 _ x2) hgv
        have R := zq_kcmp_R (zq_keyOf T lb ns (ol[md]'hmdl : Nat)) (zq_keyOf T lb ns v)
        rw [if_pos ⟨by omega, by omega⟩, e2, zq_mb2_eq hc, zq_w32i (z := zq_kcmp (zq_keyOf T lb ns (ol[md]'hmdl : Nat)) (zq_keyOf T lb ns v)) (by omega) (by omega)]
        have srt := List.pairwise_iff_getElem.mp ho.2.2.2.1
        by_cases c3 : 0 < zq_kcmp (zq_keyOf T lb ns (ol[md]'hmdl : Nat)) (zq_keyOf T lb ns v)
        · rw [if_pos c3, q_Gr_putInOrder_52]
          refine zq_E_bin h hns hv ho hgv m' f lo md (tn + 1) (by omega) (by omega) (by omega) h4 (by omega) (by omega) (by omega) hA (fun r x hr hxr => ?_)
          by_cases z : r = md
          · subst z; rw [hx] at hxr; cases hxr; omega
          · have hrl : r < ol.length := (List.getElem?_eq_some_iff.mp hxr).1
            have exr : ol[r] = x := (List.getElem?_eq_some_iff.mp hxr).2
            have q := srt md r hmdl hrl (by omega)
            rw [exr] at q
            -- key md > key v, key md ≤ key r
            have R2 := zq_kcmp_R (zq_keyOf T lb ns x) (zq_keyOf T lb ns v)
            have R3 := zq_kcmp_R (zq_keyOf T lb ns (ol[md]'hmdl : Nat)) (zq_keyOf T lb ns x)
            have len : ∀ a b : Nat, (zq_keyOf T lb ns a).length = (zq_keyOf T lb ns b).length := fun a b => by unfold zq_keyOf; simp
            have s1 := zq_kcmp_sym (zq_keyOf T lb ns v) (zq_keyOf T lb ns (ol[md]'hmdl : Nat))
            by_cases w : zq_kcmp (zq_keyOf T lb ns (ol[md]'hmdl : Nat)) (zq_keyOf T lb ns x) = 0
            · have := (zq_kcmp_0 _ _ (len _ _)).mp w
              rw [← this]; omega
            · have t := zq_kcmp_tr (zq_keyOf T lb ns v) (zq_keyOf T lb ns (ol[md]'hmdl : Nat)) (zq_keyOf T lb ns x) (len _ _) (len _ _) (by omega) (by omega)
              have s2 := zq_kcmp_sym (zq_keyOf T lb ns x) (zq_keyOf T lb ns v)
              omega
        · rw [if_neg c3, q_Gr_putInOrder_52]
          refine zq_E_bin h hns hv ho hgv m' f (md + 1) hi (tn + 1) (by omega) (by omega) (by omega) (by omega) (by omega) h6 (by omega) (fun r x hr hxr => ?_) hB
          by_cases z : r = md
          · subst z; rw [hx] at hxr; cases hxr; omega
          · by_cases z2 : (r : Int) < lo
            · exact hA r x z2 hxr
            · have hrl : r < ol.length := (List.getElem?_eq_some_iff.mp hxr).1
              have exr : ol[r] = x := (List.getElem?_eq_some_iff.mp hxr).2
              have q := srt r md hrl hmdl (by omega)
              rw [exr] at q
              have R2 := zq_kcmp_R (zq_keyOf T lb ns x) (zq_keyOf T lb ns v)
              have R3 := zq_kcmp_R (zq_keyOf T lb ns x) (zq_keyOf T lb ns (ol[md]'hmdl : Nat))
              have len : ∀ a b : Nat, (zq_keyOf T lb ns a).length = (zq_keyOf T lb ns b).length := fun a b => by unfold zq_keyOf; simp
              intro w
              have s2 := zq_kcmp_sym (zq_keyOf T lb ns v) (zq_keyOf T lb ns x)
              by_cases w2 : zq_kcmp (zq_keyOf T lb ns x) (zq_keyOf T lb ns (ol[md]'hmdl : Nat)) = 0
              · have := (zq_kcmp_0 _ _ (len _ _)).mp w2
                rw [← this] at c3; omega
              · have t := zq_kcmp_tr (zq_keyOf T lb ns v) (zq_keyOf T lb ns x) (zq_keyOf T lb ns (ol[md]'hmdl : Nat)) (len _ _) (len _ _) (by omega) (by omega)
                have s3 := zq_kcmp_sym (zq_keyOf T lb ns (ol[md]'hmdl : Nat)) (zq_keyOf T lb ns v)
                omega
set_option maxRecDepth 100000 in
theorem zq_w_put {S : WS} (h : zq_RLb c S M lb) {ns : List zq_NM} (hns : S.gr_nameCount = ns.length ∧ ns.length ≤ 6) {zq_gl od ld : Int → Int} {sz : Int} {go : Int → Int} {v : Nat} (hv : v < c.N) {ol : List Nat} (ho : zq_OI T lb ns v zq_gl od ol) (hgv : zq_GL T lb ns zq_gl v) : ∃ od' ol', s_Gr_putInOrder c (zq_grw S zq_gl od ld sz go) v = some ((), zq_grw S zq_gl od' ld sz go) ∧ zq_OI T lb ns (v + 1) zq_gl od' ol' ∧ (ol.Nodup → ol'.Nodup) := by
  have hN := h.1.1
  obtain ⟨p, p1, p2, p3, p4⟩ := zq_E_bin (ld := ld) (sz := sz) (go := go) h hns hv ho hgv 32 fU 0 v 0 (by omega) (by omega) (zq_fU_gt (by omega)) (by omega) (by omega) (by omega) (by show (v : Int) - 0 < ((2 ^ 32 : Nat) : Int); have : (2 ^ 32 : Nat) = 4294967296 := (by decide); omega) (fun r x hr => by omega) (fun r x hr hx => by
    exfalso; have := (List.getElem?_eq_some_iff.mp hx).1; rw [ho.1] at this; omega)
  have htl : (ol.take p).length = p := by simp [ho.1]; omega
  have len : ∀ a b : Nat, (zq_keyOf T lb ns a).length = (zq_keyOf T lb ns b).length := fun a b => by unfold zq_keyOf; simp
  refine ⟨aU (aC od p (p + 1) (v - p)) p v, ol.take p ++ v :: ol.drop p, ?_, ⟨?_, fun r x hx => ?_, fun i hi => ?_, ?_, fun i hi => ?_⟩, fun nd => ?_⟩
  · rw [s_Gr_putInOrder, p2, q_Gr_putInOrder_58, if_pos ⟨by omega, by omega, by omega, by omega, by omega⟩, if_pos ⟨by omega, by omega⟩]; rfl
  · simp [ho.1]; omega
  · by_cases z1 : r < p
    · rw [List.getElem?_append_left (by omega), List.getElem?_take_of_lt z1] at hx
      have q := ho.2.1 r x hx
      rw [zq_aU_ne _ _ _ _ (by omega)]; unfold aC; rw [if_neg (by omega)]; exact ⟨q.1, by omega⟩
    · rw [List.getElem?_append_right (by omega), htl] at hx
      by_cases z2 : r = p
      · subst z2
        rw [Nat.sub_self] at hx; simp at hx; subst hx
        rw [zq_aU_at]; exact ⟨rfl, by omega⟩
      · rw [show r - p = (r - p - 1) + 1 by omega, List.getElem?_cons_succ, List.getElem?_drop, show p + (r - p - 1) = r - 1 by omega] at hx
        have hrl := (List.getElem?_eq_some_iff.mp hx).1
        rw [ho.1] at hrl
        have q := ho.2.1 (r - 1) x hx
        rw [zq_aU_ne _ _ _ _ (by omega)]; unfold aC; rw [if_pos (by omega), show (p : Int) + ((r : Int) - ((p : Int) + 1)) = ((r - 1 : Nat) : Int) by omega]; exact ⟨q.1, by omega⟩
  · by_cases z : i = v
    · subst z; simp
    · have := ho.2.2.1 i (by omega)
      rw [← List.take_append_drop p ol] at this
      rcases List.mem_append.mp this with q | q
      · exact List.mem_append_left _ q
      · exact List.mem_append_right _ (List.mem_cons_of_mem _ q)
  · have hs := ho.2.2.2.1
    rw [← List.take_append_drop p ol, List.pairwise_append] at hs
    obtain ⟨a1, a2, a3⟩ := hs
    rw [List.pairwise_append]
    refine ⟨a1, ?_, fun x hx y hy => ?_⟩
    · rw [List.pairwise_cons]
      refine ⟨fun y hy => ?_, a2⟩
      obtain ⟨q, hq, eq⟩ := List.mem_iff_getElem.mp hy
      rw [List.getElem_drop] at eq
      have := p4 (p + q) y (by omega) (by rw [← eq]; exact List.getElem?_eq_getElem _)
      have s := zq_kcmp_sym (zq_keyOf T lb ns v) (zq_keyOf T lb ns y)
      omega
    · rcases List.mem_cons.mp hy with rfl | hy
      · obtain ⟨q, hq, eq⟩ := List.mem_iff_getElem.mp hx
        rw [List.getElem_take] at eq
        simp at hq
        exact p3 q x (by omega) (by rw [← eq]; exact List.getElem?_eq_getElem _)
      · exact a3 x hx y hy
  · by_cases z : i = v
    · subst z; exact hgv
    · exact ho.2.2.2.2 i (by omega)
  · rw [List.perm_middle.nodup_iff, List.take_append_drop, List.nodup_cons]
    refine ⟨fun z => ?_, nd⟩
    obtain ⟨q, hq, eq⟩ := List.mem_iff_getElem.mp z
    have := ho.2.1 q v (by rw [← eq]; exact List.getElem?_eq_getElem _)
    omega
set_option maxRecDepth 100000 in
theorem zq_E_f55 {S : WS} (h : zq_RLb c S M lb) (hp : zq_PB k0 T n c S L) {v : Nat} {ns : List zq_NM} (hr : zq_NR n L v ns) (hnc : S.gr_nameCount = ns.length) (ld : Int → Int) (sz : Int) (go : Int → Int) : ∀ (m f i : Nat) (zq_gl od : Int → Int) (ol : List Nat), i + m = c.N → m < f → zq_OI T lb ns i zq_gl od ol → ∃ gl' od' ol', q_Gr_form_55 c f v c.N i (zq_grw S zq_gl od ld sz go) = q_Gr_form_79 c fU c.N 0 (zq_grw S gl' od' ld sz go) ∧ zq_OI T lb ns c.N gl' od' ol' ∧ (ol.Nodup → ol'.Nodup)
  | m, 0, i, zq_gl, od, ol => by omega
  | m, f + 1, i, zq_gl, od, ol => by
    intro hm hf ho
    have hN := h.1.1
    rw [q_Gr_form_55, zq_w32i (z := (c.N : Int)) (by omega) (by omega), zq_w32i (z := (i : Int)) (by omega) (by omega)]
    cases m with
    | zero =>
      have : i = c.N := by omega
      subst this
      rw [if_pos (by omega)]; exact ⟨zq_gl, od, ol, rfl, ho, id⟩
    | succ m =>
      obtain ⟨gl1, a1, a2, a3⟩ := zq_E_fl h hp hr hnc (i := i) (by omega) od ld sz go ns.length fU 0 zq_gl (by omega) (zq_fU_gt (by have := hr.2.2.2; omega)) (fun q x hq => by omega)
      have ho1 : zq_OI T lb ns i gl1 od ol := ⟨ho.1, ho.2.1, ho.2.2.1, ho.2.2.2.1, fun j hj q x hx => by
        have h6 := hr.2.2.2
        have hq : q < ns.length := (List.getElem?_eq_some_iff.mp hx).1
        rw [a3 _ (by omega)]; exact ho.2.2.2.2 j hj q x hx⟩
      obtain ⟨od1, ol1, b1, b2, b3⟩ := zq_w_put (ld := ld) (sz := sz) (go := go) h ⟨hnc, hr.2.2.2⟩ (v := i) (by omega) ho1 a2
      obtain ⟨gl2, od2, ol2, c1, c2, c3⟩ := zq_E_f55 h hp hr hnc ld sz go m f (i + 1) gl1 od1 ol1 (by omega) (by omega) b2
      rw [show ((i + 1 : Nat) : Int) = (i : Int) + 1 by omega] at c1
      refine ⟨gl2, od2, ol2, ?_, c2, fun z => c3 (b3 z)⟩
      have e1 : s_Gr_findLabels c (zq_grw S zq_gl od ld sz go) i v = some ((), zq_grw S gl1 od ld sz go) := by
        rw [s_Gr_findLabels, if_pos ⟨⟨by omega, by omega⟩, hN⟩, Int.toNat_natCast]; exact a1
      rw [if_neg (by omega), zq_mb2_eq e1, zq_mb2_eq b1, c1]
set_option maxRecDepth 100000 in
/-- the groups -/
def zq_GF (T : Int → Int) (lb : Nat → zq_LB) (ns : List zq_NM) (r : Nat) (ol : List Nat) (ld : Int → Int) (sz : Int) (go : Int → Int) (Ks : List zq_Key) (N : Nat) : Prop := (sz = Ks.length ∧ Ks.length ≤ r) ∧ Ks.Pairwise zq_klt ∧ (∀ k ∈ Ks, k.length = ns.length) ∧ (∀ (q x : Nat), q < r → ol[q]? = some x → ∃ g : Nat, go x = g ∧ Ks[g]? = some (zq_keyOf T lb ns x)) ∧ (∀ (g : Nat) (k : zq_Key), Ks[g]? = some k → ∃ i : Nat, i < N ∧ ld g = i ∧ zq_keyOf T lb ns i = k) ∧ (∀ x, 0 < r → ol[r - 1]? = some x → Ks.getLast? = some (zq_keyOf T lb ns x))
set_option maxRecDepth 100000 in
theorem zq_E_f79 {S : WS} (h : zq_RLb c S M lb) {ns : List zq_NM} (hns : S.gr_nameCount = ns.length ∧ ns.length ≤ 6) {zq_gl od : Int → Int} {ol : List Nat} (hol : zq_OI T lb ns c.N zq_gl od ol) (hnd : ol.Nodup) : ∀ (m f r : Nat) (ld : Int → Int) (sz : Int) (go : Int → Int) (Ks : List zq_Key), r + m = c.N → m < f → zq_GF T lb ns r ol ld sz go Ks c.N → ∃ ld' sz' go' Ks', q_Gr_form_79 c f c.N r (zq_grw S zq_gl od ld sz go) = some ((), zq_grw S zq_gl od ld' sz' go') ∧ zq_GF T lb ns c.N ol ld' sz' go' Ks' c.N
  | m, 0, r, ld, sz, go, Ks => by omega
  | m, f + 1, r, ld, sz, go, Ks => by
    intro hm hf hg
    have hN := h.1.1
    rw [q_Gr_form_79, zq_w32i (z := (c.N : Int)) (by omega) (by omega), zq_w32i (z := (r : Int)) (by omega) (by omega)]
    cases m with
    | zero =>
      have : r = c.N := by omega
      subst this
      rw [if_pos (by omega)]; exact ⟨ld, sz, go, Ks, rfl, hg⟩
    | succ m =>
      rw [if_neg (by omega)]
      obtain ⟨⟨g1, g2⟩, g3, g4, g5, g6, g7⟩ := hg
      have hrl : r < ol.length := by rw [hol.1]; omega
      have hx : ol[r]? = some (ol[r]'hrl) := List.getElem?_eq_getElem _
      obtain ⟨x1, x2⟩ := hol.2.1 r _ hx
      generalize hxx : ol[r]'hrl = x at *
      have distinct : ∀ q y, q < r → ol[q]? = some y → y ≠ x := by
        intro q y hq hy e
        have hql := (List.getElem?_eq_some_iff.mp hy).1
        have := (List.getElem_inj (i := q) (j := r) (h₀ := hql) (h₁ := hrl) hnd).mp ((List.getElem?_eq_some_iff.mp hy).2.trans (e.trans hxx.symm))
        omega
      -- a new group
      have new : (∀ y, 0 < r → ol[r - 1]? = some y → zq_kcmp (zq_keyOf T lb ns y) (zq_keyOf T lb ns x) = -1) → ∃ ld' sz' go' Ks', q_Gr_form_109 c (q_Gr_form_79 c f) c.N r (zq_grw S zq_gl od ld sz go) = some ((), zq_grw S zq_gl od ld' sz' go') ∧ zq_GF T lb ns c.N ol ld' sz' go' Ks' c.N := by
        intro hlt
        have e1 : (zq_grw S zq_gl od ld sz go).gr_size = Ks.length := g1
        have e2 : (zq_grw S zq_gl od ld sz go).gr_order r = x := x1
        have hlast : ∀ k ∈ Ks, zq_klt k (zq_keyOf T lb ns x) := by
          intro k hk
          by_cases hr0 : r = 0
          · have : Ks = [] := List.eq_nil_of_length_eq_zero (by omega)
            rw [this] at hk; cases hk
          · have hy : ol[r - 1]? = some (ol[r - 1]'(by omega)) := List.getElem?_eq_getElem _
            have hl := g7 _ (by omega) hy
            have hc := hlt _ (by omega) hy
            generalize ol[r - 1]'(by omega) = y at *
            have hne : Ks ≠ [] := fun z => by rw [z] at hk; cases hk
            have hgl : Ks.getLast hne = zq_keyOf T lb ns y := by rw [List.getLast?_eq_some_getLast hne] at hl; exact Option.some.inj hl
            have esp : Ks = Ks.dropLast ++ [zq_keyOf T lb ns y] := by rw [← hgl]; exact (List.dropLast_concat_getLast hne).symm
            rw [esp] at hk g3
            rcases List.mem_append.mp hk with q | q
            · rw [List.pairwise_append] at g3
              have := g3.2.2 k q (zq_keyOf T lb ns y) (by simp)
              have hkl : k.length = ns.length := g4 k (by rw [esp]; exact List.mem_append_left _ q)
              exact zq_kcmp_tr _ _ _ (by rw [hkl]; unfold zq_keyOf; simp) (by unfold zq_keyOf; simp) this hc
            · simp at q; rw [q]; exact hc
        rw [q_Gr_form_109, if_pos ⟨by omega, by omega⟩, e1, if_pos ⟨by omega, by omega⟩, q_Gr_form_134, if_pos ⟨by omega, by omega⟩, e2]
        rw [if_pos ⟨by omega, by omega⟩]
        obtain ⟨ld', sz', go', Ks', i1, i2⟩ := zq_E_f79 h hns hol hnd m f (r + 1) (aU ld (Ks.length : Int) x) ((Ks.length : Int) + 1) (aU go x (Ks.length : Int)) (Ks ++ [zq_keyOf T lb ns x]) (by omega) (by omega) ⟨⟨by simp, by simp; omega⟩, by
            rw [List.pairwise_append]; exact ⟨g3, by simp, fun a ha b hb => by simp at hb; rw [hb]; exact hlast a ha⟩, fun k hk => by
            rcases List.mem_append.mp hk with q | q
            · exact g4 k q
            · simp at q; rw [q]; unfold zq_keyOf; simp, fun q y hq hy => by
            by_cases z : q = r
            · subst z; rw [hx] at hy; cases hy
              exact ⟨Ks.length, by rw [zq_aU_at], by rw [List.getElem?_append_right (Nat.le_refl _), Nat.sub_self]; rfl⟩
            · have hne := distinct q y (by omega) hy
              obtain ⟨g, q1, q2⟩ := g5 q y (by omega) hy
              refine ⟨g, by rw [zq_aU_ne _ _ _ _ (by omega)]; exact q1, ?_⟩
              rw [List.getElem?_append_left (List.getElem?_eq_some_iff.mp q2).1]; exact q2, fun g k hk => by
            by_cases z : g < Ks.length
            · rw [List.getElem?_append_left z] at hk
              obtain ⟨i, i1, i2, i3⟩ := g6 g k hk
              exact ⟨i, i1, by rw [zq_aU_ne _ _ _ _ (by omega)]; exact i2, i3⟩
            · have hl : g < (Ks ++ [zq_keyOf T lb ns x]).length := (List.getElem?_eq_some_iff.mp hk).1
              simp at hl
              have : g = Ks.length := by omega
              subst this
              rw [List.getElem?_append_right (Nat.le_refl _), Nat.sub_self] at hk
              simp at hk
              exact ⟨x, by omega, by rw [zq_aU_at], hk⟩, fun y _ hy => by
            rw [show r + 1 - 1 = r by omega, hx] at hy; cases hy
            rw [List.getLast?_concat]⟩
        rw [show ((r + 1 : Nat) : Int) = (r : Int) + 1 by omega] at i1
        refine ⟨ld', sz', go', Ks', ?_, i2⟩
        rw [← i1, show (Ks.length : Int) + 1 - 1 = (Ks.length : Int) by omega]; rfl
      by_cases c0 : r = 0
      · rw [if_pos (by omega)]
        exact new (fun y hr => by omega)
      · rw [if_neg (by omega), if_pos ⟨by omega, by omega⟩, if_pos ⟨by omega, by omega⟩]
        have hy : ol[r - 1]? = some (ol[r - 1]'(by omega)) := List.getElem?_eq_getElem _
        obtain ⟨y1, y2⟩ := hol.2.1 (r - 1) _ hy
        have srt := List.pairwise_iff_getElem.mp hol.2.2.2.1 (r - 1) r (by omega) hrl (by omega)
        rw [hxx] at srt
        have hlastk := g7 _ (by omega) hy
        generalize ol[r - 1]'(by omega) = y at *
        have e2 : (zq_grw S zq_gl od ld sz go).gr_order r = x := x1
        have e3 : (zq_grw S zq_gl od ld sz go).gr_order ((r : Int) - 1) = y := by rw [show (r : Int) - 1 = ((r - 1 : Nat) : Int) by omega]; exact y1
        have hc := zq_e_grCmp (c := c) (S := zq_grw S zq_gl od ld sz go) (M := M) (T := T) h hns (i := y) (i' := x) (by omega) (by omega) (hol.2.2.2.2 y y2) (hol.2.2.2.2 x x2)
        have R := zq_kcmp_R (zq_keyOf T lb ns y) (zq_keyOf T lb ns x)
        rw [e2, e3, zq_mb2_eq hc, zq_w32i (z := zq_kcmp (zq_keyOf T lb ns y) (zq_keyOf T lb ns x)) (by omega) (by omega)]
        by_cases c1 : zq_kcmp (zq_keyOf T lb ns y) (zq_keyOf T lb ns x) = 0
        · have ek : zq_keyOf T lb ns y = zq_keyOf T lb ns x := (zq_kcmp_0 _ _ (by unfold zq_keyOf; simp)).mp c1
          have hne : Ks ≠ [] := fun z => by rw [z] at hlastk; cases hlastk
          have hKl : 0 < Ks.length := List.length_pos_iff.mpr hne
          have e4 : (zq_grw S zq_gl od ld sz go).gr_size = Ks.length := g1
          rw [if_pos c1, q_Gr_form_134, if_pos ⟨by omega, by omega⟩, e2, if_pos ⟨by omega, by omega⟩, e4]
          obtain ⟨ld', sz', go', Ks', i1, i2⟩ := zq_E_f79 h hns hol hnd m f (r + 1) ld sz (aU go x ((Ks.length : Int) - 1)) Ks (by omega) (by omega) ⟨⟨g1, by omega⟩, g3, g4, fun q z hq hz => by
              by_cases zz : q = r
              · subst zz; rw [hx] at hz; cases hz
                refine ⟨Ks.length - 1, by rw [zq_aU_at]; omega, ?_⟩
                rw [List.getLast?_eq_getElem?] at hlastk
                rw [hlastk, ek]
              · have hne' := distinct q z (by omega) hz
                obtain ⟨g, q1, q2⟩ := g5 q z (by omega) hz
                exact ⟨g, by rw [zq_aU_ne _ _ _ _ (by omega)]; exact q1, q2⟩, g6, fun z _ hz => by
              rw [show r + 1 - 1 = r by omega, hx] at hz; cases hz
              rw [hlastk, ek]⟩
          rw [show ((r + 1 : Nat) : Int) = (r : Int) + 1 by omega] at i1
          exact ⟨ld', sz', go', Ks', i1, i2⟩
        · rw [if_neg c1]
          exact new (fun z _ hz => by rw [hy] at hz; cases hz; omega)
set_option maxRecDepth 100000 in
/-- the groups, formed -/
def zq_GP (T : Int → Int) (lb : Nat → zq_LB) (ns : List zq_NM) (S : WS) (Ks : List zq_Key) (N : Nat) : Prop := (S.gr_nameCount = ns.length ∧ S.gr_size = Ks.length ∧ Ks.length ≤ N) ∧ Ks.Pairwise zq_klt ∧ (∀ k ∈ Ks, k.length = ns.length) ∧ (∀ i : Nat, i < N → ∃ g : Nat, S.gr_groupOf i = g ∧ Ks[g]? = some (zq_keyOf T lb ns (i : Int))) ∧ (∀ (g : Nat) (k : zq_Key), Ks[g]? = some k → ∃ i : Nat, i < N ∧ S.gr_leaders g = i ∧ zq_keyOf T lb ns (i : Int) = k) ∧ (∀ i : Nat, i < N → zq_GL T lb ns S.gr_labels i)
set_option maxRecDepth 100000 in
theorem zq_w_form {S : WS} (h : zq_RLb c S M lb) (hsz : s_St_size c S = some ((c.N : Int), S)) (hsz2 : ∀ a b, s_St_size c (WS.w_gr_size (WS.w_gr_nameCount S a) b) = some ((c.N : Int), (WS.w_gr_size (WS.w_gr_nameCount S a) b))) (hp : zq_PB k0 T n c S L) {r : Int} {ns : List zq_NM} (hg : zq_NG n L r ns) : (ns = [] → s_Gr_form c S r = some ((), WS.w_gr_size (WS.w_gr_nameCount S 0) 0)) ∧ (ns ≠ [] → ∃ zq_gl od ld sz go Ks, s_Gr_form c S r = some ((), zq_grw (WS.w_gr_nameCount S ns.length) zq_gl od ld sz go) ∧ zq_GP T lb ns (zq_grw (WS.w_gr_nameCount S ns.length) zq_gl od ld sz go) Ks c.N) := by
  have hN := h.1.1
  rcases hg with ⟨rfl, rfl⟩ | ⟨v, rfl, hv, hne, hr⟩
  · refine ⟨fun _ => ?_, fun z => absurd rfl z⟩
    rw [s_Gr_form, if_pos (by decide), q_Gr_form_23, if_pos (by decide)]
  · refine ⟨fun z => absurd z hne, fun _ => ?_⟩
    have h6 := hr.2.2.2
    have hl : 0 < ns.length := List.length_pos_iff.mpr hne
    have hoc := hp.1.1.2.2.2.2
    have hvb : (v : Int) < 2147483647 := by
      have a1 := hp.2.2.2.2
      have a2 := hp.1.1
      omega
    rw [s_Gr_form, zq_w32i (z := (v : Int)) (by omega) (by omega), if_neg (by omega), zq_mb2_eq (zq_w_namesOf hp hr), zq_w32i (z := (ns.length : Int)) (by omega) (by omega), show min (ns.length : Int) 6 = ns.length by omega, q_Gr_form_23, zq_w32i (z := (ns.length : Int)) (by omega) (by omega), if_neg (by omega), zq_mb2_eq (hsz2 _ _), zq_w32i (z := (c.N : Int)) (by omega) (by omega), show min (c.N : Int) 256 = c.N by omega]
    have h' : zq_RLb c (WS.w_gr_nameCount S ns.length) M lb := h
    have hp' : zq_PB k0 T n c (WS.w_gr_nameCount S ns.length) L := hp
    obtain ⟨zq_gl, od, ol, a1, a2, a3⟩ := zq_E_f55 h' hp' hr (hnc := rfl) S.gr_leaders 0 S.gr_groupOf c.N fU 0 S.gr_labels S.gr_order [] (by omega) (zq_fU_gt (by omega)) ⟨rfl, fun r x hx => by simp at hx, fun i hi => by omega, List.Pairwise.nil, fun i hi => by omega⟩
    have nd := a3 List.nodup_nil
    obtain ⟨ld, sz, go, Ks, b1, b2⟩ := zq_E_f79 h' ⟨rfl, h6⟩ a2 nd c.N fU 0 S.gr_leaders 0 S.gr_groupOf [] (by omega) (zq_fU_gt (by omega)) ⟨⟨rfl, by simp⟩, List.Pairwise.nil, by simp, fun q x hq => by omega, fun g k hk => by simp at hk, fun x hx => by omega⟩
    refine ⟨zq_gl, od, ld, sz, go, Ks, ?_, ⟨⟨rfl, b2.1.1, b2.1.2⟩, b2.2.1, b2.2.2.1, fun i hi => ?_, b2.2.2.2.2.1, a2.2.2.2.2⟩⟩
    · exact Eq.trans a1 b1
    · obtain ⟨q, hq, eq⟩ := List.mem_iff_getElem.mp (a2.2.2.1 i hi)
      exact b2.2.2.2.1 q i (by rw [← a2.1]; exact hq) (by rw [← eq]; exact List.getElem?_eq_getElem _)
end
/-! cells of the program's grids -/
set_option maxRecDepth 100000 in
def zq_gpc (S : WS) (v : Nat) (th : Int → Int) (nu : Int → Int64) : WS := WS.w_gd_there (WS.w_gd_numbers S (nU S.gd_numbers v nu)) (nU S.gd_there v th)
set_option maxRecDepth 100000 in
def zq_gcl (th : Int → Int) (nu : Int → Int64) (j : Int) (o : Option Int64) : Prop := match o with | none => th j = 0 | some x => th j = 1 ∧ nu j = x
set_option maxRecDepth 100000 in
theorem zq_nU_id {α : Type} (f : Nat → α) (v : Nat) : nU f v (f v) = f := by
  funext j; unfold nU; split
  · rename_i h; rw [h]
  · rfl
set_option maxRecDepth 100000 in
theorem zq_gpc_id (S : WS) (v : Nat) : zq_gpc S v (S.gd_there v) (S.gd_numbers v) = S := by
  unfold zq_gpc; rw [zq_nU_id, zq_nU_id]; try rfl
set_option maxRecDepth 100000 in
theorem zq_gpc_gpc (S : WS) (v : Nat) (th th' : Int → Int) (nu nu' : Int → Int64) : zq_gpc (zq_gpc S v th nu) v th' nu' = zq_gpc S v th' nu' := by
  show WS.w_gd_there (WS.w_gd_numbers (zq_gpc S v th nu) (nU (nU S.gd_numbers v nu) v nu')) (nU (nU S.gd_there v th) v th') = _
  rw [zq_nU_nU, zq_nU_nU]; rfl
set_option maxRecDepth 100000 in
theorem zq_gpc_th (S : WS) (v : Nat) (th : Int → Int) (nu : Int → Int64) : (zq_gpc S v th nu).gd_there v = th := nU_at _ _ _
set_option maxRecDepth 100000 in
theorem zq_gpc_nu (S : WS) (v : Nat) (th : Int → Int) (nu : Int → Int64) : (zq_gpc S v th nu).gd_numbers v = nu := nU_at _ _ _
set_option maxRecDepth 100000 in
/-- a grid of L lines -/
def zq_gok (c : CW) (S : WS) (v L W : Nat) : Prop := S.gd_windows v = W ∧ (1 ≤ W ∧ W ≤ 64) ∧ (S.gd_lines v = L ∧ L ≤ 256) ∧ ((S.gd_named v = 0 ∧ L = 1) ∨ S.gd_named v = 1) ∧ (((L * W : Nat) : Int) ≤ c.gc v ∧ c.gd v = c.gc v ∧ c.gc v ≤ 16384)
set_option maxRecDepth 100000 in
def zq_gcs (W L : Nat) (th : Int → Int) (nu : Int → Int64) (F : Nat → Nat → Option Int64) : Prop := ∀ r w : Nat, r < L → w < W → zq_gcl th nu ((r : Int) * W + w) (F r w)
set_option maxRecDepth 100000 in
theorem zq_ix_in {W L r w : Nat} (hr : r < L) (hw : w < W) : 0 ≤ (r : Int) * W + w ∧ (r : Int) * W + w < ((L * W : Nat) : Int) := by
  have h1 : r * W + w < L * W := by
    have : (r + 1) * W ≤ L * W := Nat.mul_le_mul_right _ (by omega)
    rw [Nat.add_mul] at this; omega
  have h2 : ((r * W + w : Nat) : Int) = (r : Int) * W + w := by rw [Int.natCast_add, Int.natCast_mul]
  omega
section
variable {c : CW} {S : WS} {v L W : Nat}
set_option maxRecDepth 100000 in
theorem zq_g_place (h : zq_gok c S v L W) {r w : Nat} (hr : r < L) : s_Gd_placeOf c S v r w = some ((r : Int) * W + w, S) := by
  obtain ⟨h1, h2, h3, h4, h5⟩ := h
  rw [s_Gd_placeOf]
  rcases h4 with ⟨a, b⟩ | a
  · have : r = 0 := by omega
    subst this
    rw [a, if_pos (by decide)]; simp
  · rw [a, if_neg (by decide), h1]
set_option maxRecDepth 100000 in
theorem zq_g_put (h : zq_gok c S v L W) {p : Int} (hp : 0 ≤ p ∧ p < ((L * W : Nat) : Int)) (th : Int → Int) (nu : Int → Int64) (x : Int64) : s_Gd_put c (zq_gpc S v th nu) v p x = some ((), zq_gpc S v (aU th p 1) (aU nu p x)) := by
  obtain ⟨h1, h2, h3, h4, h5⟩ := h
  rw [s_Gd_put, zq_w32i (z := p) (by omega) (by omega), if_neg (by omega), zq_w32i (z := c.gc v) (by omega) (by omega), if_neg (by omega), h5.2.1, zq_w32i (z := c.gc v) (by omega) (by omega), if_neg (by omega), if_pos (by omega), if_pos (by omega), zq_gpc_nu, zq_gpc_th, ← zq_gpc_gpc S v th (aU th p 1) nu (aU nu p x)]
  rfl
set_option maxRecDepth 100000 in
theorem zq_g_clear (h : zq_gok c S v L W) {p : Int} (hp : 0 ≤ p ∧ p < ((L * W : Nat) : Int)) (th : Int → Int) (nu : Int → Int64) : s_Gd_clear c (zq_gpc S v th nu) v p = some ((), zq_gpc S v (aU th p 0) nu) := by
  obtain ⟨h1, h2, h3, h4, h5⟩ := h
  rw [s_Gd_clear, zq_w32i (z := p) (by omega) (by omega), if_neg (by omega), h5.2.1, zq_w32i (z := c.gc v) (by omega) (by omega), if_neg (by omega), if_pos (by omega), zq_gpc_th]
  have : WS.w_gd_there (zq_gpc S v th nu) (nU (zq_gpc S v th nu).gd_there v (aU th p 0)) = zq_gpc S v (aU th p 0) nu := by
    show WS.w_gd_there (zq_gpc S v th nu) (nU (nU S.gd_there v th) v (aU th p 0)) = _
    rw [zq_nU_nU]; rfl
  rw [this]
set_option maxRecDepth 100000 in
theorem zq_g_has (h : zq_gok c S v L W) {p : Int} (hp : 0 ≤ p ∧ p < ((L * W : Nat) : Int)) {o : Option Int64} (ho : zq_gcl (S.gd_there v) (S.gd_numbers v) p o) : s_Gd_has c S v p = some (if o = none then 0 else 1, S) := by
  obtain ⟨h1, h2, h3, h4, h5⟩ := h
  rw [s_Gd_has, zq_w32i (z := p) (by omega) (by omega), if_neg (by omega), h5.2.1, zq_w32i (z := c.gc v) (by omega) (by omega), if_neg (by omega), if_pos (by omega)]
  cases o with
  | none => rw [show S.gd_there v p = 0 from ho, if_pos (by decide), if_pos rfl]
  | some x => rw [show S.gd_there v p = 1 from ho.1, if_neg (by decide), if_neg (by simp)]
set_option maxRecDepth 100000 in
theorem zq_g_has1 (h : zq_gok c S v L W) {p : Int} (hp : 0 ≤ p ∧ p < ((L * W : Nat) : Int)) {x : Int64} (ho : zq_gcl (S.gd_there v) (S.gd_numbers v) p (some x)) : s_Gd_has c S v p = some (1, S) := by rw [zq_g_has h hp ho, if_neg (by simp)]
set_option maxRecDepth 100000 in
theorem zq_g_has0 (h : zq_gok c S v L W) {p : Int} (hp : 0 ≤ p ∧ p < ((L * W : Nat) : Int)) (ho : zq_gcl (S.gd_there v) (S.gd_numbers v) p none) : s_Gd_has c S v p = some (0, S) := by rw [zq_g_has h hp ho, if_pos rfl]
set_option maxRecDepth 100000 in
theorem zq_g_num (h : zq_gok c S v L W) {p : Int} (hp : 0 ≤ p ∧ p < ((L * W : Nat) : Int)) {o : Option Int64} (ho : zq_gcl (S.gd_there v) (S.gd_numbers v) p o) : s_Gd_numberAt c S v p = some (o.getD (ll 0), S) := by
  have e := zq_g_has h hp ho
  obtain ⟨h1, h2, h3, h4, h5⟩ := h
  cases o with
  | none => rw [s_Gd_numberAt, zq_mb2_eq e]; rfl
  | some x =>
    have e' : s_Gd_has c S v p = some (1, S) := by rw [e, if_neg (by simp)]
    rw [s_Gd_numberAt, zq_mb2_eq e', if_neg (by decide), zq_w32i (z := c.gc v) (by omega) (by omega), zq_w32i (z := p) (by omega) (by omega), if_neg (by omega), if_pos (by omega), show S.gd_numbers v p = x from ho.2]; rfl
set_option maxRecDepth 100000 in
theorem zq_gcl_at (th : Int → Int) (nu : Int → Int64) (p : Int) (x : Int64) : zq_gcl (aU th p 1) (aU nu p x) p (some x) := ⟨zq_aU_at _ _ _, zq_aU_at _ _ _⟩
set_option maxRecDepth 100000 in
theorem zq_gcl_cl (th : Int → Int) (nu : Int → Int64) (p : Int) : zq_gcl (aU th p 0) nu p none := zq_aU_at _ _ _
set_option maxRecDepth 100000 in
theorem zq_gcl_ex {th th' : Int → Int} {nu nu' : Int → Int64} {p : Int} {o : Option Int64} (h : zq_gcl th nu p o) (e1 : th' p = th p) (e2 : nu' p = nu p) : zq_gcl th' nu' p o := by
  cases o with
  | none => show th' p = 0; rw [e1]; exact h
  | some x => exact ⟨by rw [e1]; exact h.1, by rw [e2]; exact h.2⟩
set_option maxRecDepth 100000 in
theorem zq_gcs_upd {th th' : Int → Int} {nu nu' : Int → Int64} {F : Nat → Nat → Option Int64} (h : zq_gcs W L th nu F) {r0 w0 : Nat} (hw : w0 < W) {o : Option Int64} (ho : zq_gcl th' nu' ((r0 : Int) * W + w0) o) (he : ∀ j, j ≠ (r0 : Int) * W + w0 → th' j = th j ∧ nu' j = nu j) : zq_gcs W L th' nu' (fun r w => if r = r0 ∧ w = w0 then o else F r w) := by
  intro r w hr hw'
  by_cases c1 : r = r0 ∧ w = w0
  · simp only [if_pos c1]; obtain ⟨rfl, rfl⟩ := c1; exact ho
  · simp only [if_neg c1]
    have := he _ (zq_ix_ne (W := W) (r := r) (r' := r0) (v := w) (v' := w0) (by omega) (by omega) (by omega))
    exact zq_gcl_ex (h r w hr hw') this.1 this.2
set_option maxRecDepth 100000 in
theorem zq_gcs_F {th : Int → Int} {nu : Int → Int64} {F G : Nat → Nat → Option Int64} (h : zq_gcs W L th nu F) (e : ∀ r w, r < L → w < W → G r w = F r w) : zq_gcs W L th nu G := fun r w hr hw => by rw [e r w hr hw]; exact h r w hr hw
/-! minus -/
set_option maxRecDepth 100000 in
def zq_ngO (o : Option Int64) : Option Int64 := o.map (fun x => -x)
set_option maxRecDepth 100000 in
theorem zq_E_ng33 (h : zq_gok c S v L W) (hw : S.ev_windows = W) (k23 : Nat → Int → WS → Option (Unit × WS)) {r : Nat} (hr : r < L) : ∀ (m f w : Nat) (th : Int → Int) (nu : Int → Int64) (F : Nat → Nat → Option Int64), w + m = W → m < f → zq_gcs W L th nu F → ∃ th' nu', q_Ev_negate_33 c k23 f v r w (zq_gpc S v th nu) = k23 v ((r : Int) + 1) (zq_gpc S v th' nu') ∧ zq_gcs W L th' nu' (fun r' w' => if r' = r ∧ w ≤ w' then zq_ngO (F r' w') else F r' w')
  | m, 0, w, th, nu, F => by omega
  | m, f + 1, w, th, nu, F => by
    intro hm hf hF
    have h' : zq_gok c (zq_gpc S v th nu) v L W := h
    have e0 : (zq_gpc S v th nu).ev_windows = W := hw
    have hW := h.2.1
    rw [q_Ev_negate_33, e0, zq_w32i (z := (W : Int)) (by omega) (by omega), zq_w32i (z := (w : Int)) (by omega) (by omega)]
    cases m with
    | zero =>
      rw [if_pos (by omega)]
      exact ⟨th, nu, rfl, zq_gcs_F hF (fun r' w' _ hw' => if_neg (by omega))⟩
    | succ m =>
      have hp := zq_ix_in (W := W) hr (show w < W by omega)
      have hc := hF r w hr (by omega)
      have hc' : zq_gcl ((zq_gpc S v th nu).gd_there v) ((zq_gpc S v th nu).gd_numbers v) ((r : Int) * W + w) (F r w) := by rw [zq_gpc_th, zq_gpc_nu]; exact hc
      rw [if_neg (by omega), zq_mb2_eq (zq_g_place h' hr)]
      have fin : ∀ (th1 : Int → Int) (nu1 : Int → Int64), zq_gcl th1 nu1 ((r : Int) * W + w) (zq_ngO (F r w)) → (∀ j, j ≠ (r : Int) * W + w → th1 j = th j ∧ nu1 j = nu j) → ∃ th' nu', q_Ev_negate_71 c k23 (q_Ev_negate_33 c k23 f) v r w (zq_gpc S v th1 nu1) = k23 v ((r : Int) + 1) (zq_gpc S v th' nu') ∧ zq_gcs W L th' nu' (fun r' w' => if r' = r ∧ w ≤ w' then zq_ngO (F r' w') else F r' w') := by
        intro th1 nu1 g1 g2
        have := zq_gcs_upd hF (show w < W by omega) g1 g2
        obtain ⟨th', nu', a1, a2⟩ := zq_E_ng33 h hw k23 hr m f (w + 1) th1 nu1 _ (by omega) (by omega) this
        refine ⟨th', nu', ?_, zq_gcs_F a2 (fun r' w' _ _ => ?_)⟩
        · rw [q_Ev_negate_71, ← a1]; rfl
        · by_cases c1 : r' = r ∧ w' = w
          · obtain ⟨rfl, rfl⟩ := c1
            simp; intro z; omega
          · by_cases c2 : r' = r ∧ w + 1 ≤ w'
            · rw [if_pos (by omega)]; simp only [if_pos c2, if_neg c1]
            · rw [if_neg (by omega)]; simp only [if_neg c2, if_neg c1]
      cases ho : F r w with
      | none =>
        rw [ho] at hc'
        rw [zq_mb2_eq (zq_g_has0 h' hp hc'), if_pos (by decide)]
        exact fin th nu (by rw [ho] at hc ⊢; exact hc) (fun _ _ => ⟨rfl, rfl⟩)
      | some x =>
        rw [ho] at hc'
        rw [zq_mb2_eq (zq_g_has1 h' hp hc'), if_neg (by decide), zq_mb2_eq (zq_g_num h' hp hc'), zq_mb2_eq (zq_g_put h hp th nu _)]
        exact fin _ _ (by rw [ho]; exact zq_gcl_at _ _ _ _) (fun j hj => ⟨zq_aU_ne _ _ _ _ hj, zq_aU_ne _ _ _ _ hj⟩)
set_option maxRecDepth 100000 in
theorem zq_E_ng23 (h : zq_gok c S v L W) (hw : S.ev_windows = W) : ∀ (m f r : Nat) (th : Int → Int) (nu : Int → Int64) (F : Nat → Nat → Option Int64), r + m = L → m < f → zq_gcs W L th nu F → ∃ th' nu', q_Ev_negate_23 c f v r (zq_gpc S v th nu) = some ((), zq_gpc S v th' nu') ∧ zq_gcs W L th' nu' (fun r' w' => if r ≤ r' then zq_ngO (F r' w') else F r' w')
  | m, 0, r, th, nu, F => by omega
  | m, f + 1, r, th, nu, F => by
    intro hm hf hF
    have hL := h.2.2.1
    have hW := h.2.1
    have e1 : s_Gd_lines c (zq_gpc S v th nu) v = some ((L : Int), zq_gpc S v th nu) := by rw [s_Gd_lines, show (zq_gpc S v th nu).gd_lines v = L from hL.1]
    rw [q_Ev_negate_23, zq_mb2_eq e1, zq_w32i (z := (L : Int)) (by omega) (by omega), zq_w32i (z := (r : Int)) (by omega) (by omega)]
    cases m with
    | zero => rw [if_pos (by omega)]; exact ⟨th, nu, rfl, zq_gcs_F hF (fun r' w' hr' _ => if_neg (by omega))⟩
    | succ m =>
      rw [if_neg (by omega)]
      obtain ⟨th1, nu1, a1, a2⟩ := zq_E_ng33 h hw (q_Ev_negate_23 c f) (r := r) (by omega) W fU 0 th nu F (by omega) (zq_fU_gt (by omega)) hF
      obtain ⟨th2, nu2, b1, b2⟩ := zq_E_ng23 h hw m f (r + 1) th1 nu1 _ (by omega) (by omega) a2
      refine ⟨th2, nu2, ?_, zq_gcs_F b2 (fun r' w' _ _ => ?_)⟩
      · rw [show ((r + 1 : Nat) : Int) = (r : Int) + 1 by omega] at b1
        rw [← b1]; exact a1
      · by_cases c1 : r' = r
        · subst c1; simp; intro z; omega
        · by_cases c2 : r + 1 ≤ r'
          · rw [if_pos (by omega), if_pos c2, if_neg (by omega)]
          · rw [if_neg (by omega), if_neg c2, if_neg (by omega)]
end
/-! two grids become one -/
set_option maxRecDepth 100000 in
theorem zq_e_isAllowed {g : Int} (hg : zq_bsg g) (y : Int64) : s_Ev_isAllowed g y = some (if y = 0 ∧ (g = 47 ∨ g = 37) then 0 else 1) := by
  unfold zq_bsg at hg
  rw [s_Ev_isAllowed, q_Ev_isAllowed_18, zq_w32i (z := g) (by omega) (by omega)]
  have h0 : y.toInt = 0 ↔ y = 0 := ⟨fun z => Int64.toInt_inj.mp (by rw [z]; rfl), fun z => by rw [z]; rfl⟩
  by_cases c1 : y = 0
  · rw [if_pos (h0.mpr c1)]
    by_cases c2 : g = 47
    · rw [if_pos c2, if_pos ⟨c1, by omega⟩]
    · rw [if_neg c2]
      by_cases c3 : g = 37
      · rw [if_pos c3, if_pos ⟨c1, by omega⟩]
      · rw [if_neg c3, if_neg (by omega)]
  · rw [if_neg (fun z => c1 (h0.mp z)), if_neg (fun z => c1 z.1)]
set_option maxRecDepth 100000 in
theorem zq_opO_ss (g : Int) (x y : Int64) : zq_opO g (some x) (some y) = if g = 43 then some (x + y) else if g = 45 then some (x - y) else if g = 42 then some (x * y) else if y = 0 then none else if g = 47 then some (x / y) else some (x - x / y * y) := rfl
set_option maxRecDepth 100000 in
theorem zq_e_resultOf {g : Int} (hg : zq_bsg g) (x y : Int64) (h : ¬ (y = 0 ∧ (g = 47 ∨ g = 37))) : ∃ z, s_Ev_resultOf g x y = some z ∧ zq_opO g (some x) (some y) = some z := by
  unfold zq_bsg at hg
  have h0 : y.toInt = 0 ↔ y = 0 := ⟨fun z => Int64.toInt_inj.mp (by rw [z]; rfl), fun z => by rw [z]; rfl⟩
  rw [s_Ev_resultOf, zq_w32i (z := g) (by omega) (by omega), zq_opO_ss]
  by_cases c1 : g = 42
  · exact ⟨x * y, by rw [if_pos c1], by rw [if_neg (by omega), if_neg (by omega), if_pos c1]⟩
  rw [if_neg c1]
  by_cases c2 : g = 43
  · exact ⟨x + y, by rw [if_pos c2], by rw [if_pos c2]⟩
  rw [if_neg c2, if_neg (by omega)]
  by_cases c3 : g = 45
  · exact ⟨x - y, by rw [if_pos c3], by rw [if_neg c2, if_pos c3]⟩
  have hy : y ≠ 0 := fun z => h ⟨z, by omega⟩
  rw [if_neg c3, if_neg (by omega)]
  by_cases c4 : g = 47
  · exact ⟨x / y, by rw [if_pos c4, if_neg (fun z => hy (h0.mp z)), if_pos hy], by rw [if_neg c2, if_neg c3, if_neg c1, if_neg hy, if_pos c4]⟩
  · exact ⟨x - x / y * y, by rw [if_neg c4, if_neg (fun z => hy (h0.mp z)), if_pos hy], by rw [if_neg c2, if_neg c3, if_neg c1, if_neg hy, if_neg c4]⟩
set_option maxRecDepth 100000 in
theorem zq_op_no {g : Int} (hg : zq_bsg g) (x y : Int64) (h : y = 0 ∧ (g = 47 ∨ g = 37)) : zq_opO g (some x) (some y) = none := by
  rw [zq_opO_ss, if_neg (by omega), if_neg (by omega), if_neg (by omega), if_pos h.1]
set_option maxRecDepth 100000 in
abbrev zq_FF : Type := Nat → Nat → Option Int64
set_option maxRecDepth 100000 in
/-- a side of an operation: how its cells are read while the other side's are written -/
def zq_rdS (c : CW) (S : WS) (v4 v L W : Nat) (A : zq_FF → zq_FF) : Prop := (∀ (F G : zq_FF) r w, F r w = G r w → A F r w = A G r w) ∧ ∀ (th : Int → Int) (nu : Int → Int64) (F : zq_FF) (r w : Nat), zq_gcs W L th nu F → r < L → w < W → ∃ p, s_Gd_placeOf c (zq_gpc S v4 th nu) v r w = some (p, zq_gpc S v4 th nu) ∧ s_Gd_has c (zq_gpc S v4 th nu) v p = some (if A F r w = none then 0 else 1, zq_gpc S v4 th nu) ∧ s_Gd_numberAt c (zq_gpc S v4 th nu) v p = some ((A F r w).getD (ll 0), zq_gpc S v4 th nu)
set_option maxRecDepth 100000 in
theorem zq_rdS_self {c : CW} {S : WS} {v L W : Nat} (h : zq_gok c S v L W) : zq_rdS c S v v L W id := by
  refine ⟨fun F G r w e => e, fun th nu F r w hF hr hw => ?_⟩
  have h' : zq_gok c (zq_gpc S v th nu) v L W := h
  have hp := zq_ix_in (W := W) hr hw
  have hc : zq_gcl ((zq_gpc S v th nu).gd_there v) ((zq_gpc S v th nu).gd_numbers v) ((r : Int) * W + w) (F r w) := by rw [zq_gpc_th, zq_gpc_nu]; exact hF r w hr hw
  exact ⟨_, zq_g_place h' hr, zq_g_has h' hp hc, zq_g_num h' hp hc⟩
set_option maxRecDepth 100000 in
theorem zq_rdS_other {c : CW} {S : WS} {v4 v L L' W : Nat} (hne : v ≠ v4) (h : zq_gok c S v L' W) {F' : zq_FF} (hF' : zq_gcs W L' (S.gd_there v) (S.gd_numbers v) F') (hL : (S.gd_named v = 0 ∧ L' = 1) ∨ (S.gd_named v = 1 ∧ L ≤ L')) : zq_rdS c S v4 v L W (fun _ r w => F' (if S.gd_named v = 0 then 0 else r) w) := by
  refine ⟨fun F G r w e => rfl, fun th nu F r w hF hr hw => ?_⟩
  have h' : zq_gok c (zq_gpc S v4 th nu) v L' W := h
  have e1 : (zq_gpc S v4 th nu).gd_there v = S.gd_there v := nU_ne _ _ _ _ hne
  have e2 : (zq_gpc S v4 th nu).gd_numbers v = S.gd_numbers v := nU_ne _ _ _ _ hne
  have hl : (if S.gd_named v = 0 then 0 else r) < L' := by split <;> omega
  have hp := zq_ix_in (W := W) hl hw
  have hc : zq_gcl ((zq_gpc S v4 th nu).gd_there v) ((zq_gpc S v4 th nu).gd_numbers v) (((if S.gd_named v = 0 then 0 else r : Nat) : Int) * W + w) (F' (if S.gd_named v = 0 then 0 else r) w) := by rw [e1, e2]; exact hF' _ w hl hw
  refine ⟨_, ?_, zq_g_has h' hp hc, zq_g_num h' hp hc⟩
  rcases hL with ⟨a, b⟩ | ⟨a, b⟩
  · rw [s_Gd_placeOf, show (zq_gpc S v4 th nu).gd_named v = 0 from a, if_pos (by decide), if_pos a]; simp
  · rw [if_neg (by omega)]; exact zq_g_place h' (by omega)
section
variable {c : CW} {S : WS} {v2 v3 v4 L W : Nat} {A B : zq_FF → zq_FF} {g : Int}
set_option maxRecDepth 100000 in
theorem zq_E_cb63 (hg : zq_bsg g) (h : zq_gok c S v4 L W) (hw : S.ev_windows = W) (hA : zq_rdS c S v4 v2 L W A) (hB : zq_rdS c S v4 v3 L W B) (k50 : Int → Nat → Nat → Nat → Int → WS → Option (Unit × WS)) {r : Nat} (hr : r < L) : ∀ (m f w : Nat) (th : Int → Int) (nu : Int → Int64) (F : zq_FF), w + m = W → m < f → zq_gcs W L th nu F → ∃ th' nu', q_Ev_combine_63 c k50 f g v2 v3 v4 r w (zq_gpc S v4 th nu) = k50 g v2 v3 v4 ((r : Int) + 1) (zq_gpc S v4 th' nu') ∧ zq_gcs W L th' nu' (fun r' w' => if r' = r ∧ w ≤ w' then zq_opO g (A F r' w') (B F r' w') else F r' w')
  | m, 0, w, th, nu, F => by omega
  | m, f + 1, w, th, nu, F => by
    intro hm hf hF
    have h' : zq_gok c (zq_gpc S v4 th nu) v4 L W := h
    have e0 : (zq_gpc S v4 th nu).ev_windows = W := hw
    have hW := h.2.1
    rw [q_Ev_combine_63, e0, zq_w32i (z := (W : Int)) (by omega) (by omega), zq_w32i (z := (w : Int)) (by omega) (by omega)]
    cases m with
    | zero =>
      rw [if_pos (by omega)]
      exact ⟨th, nu, rfl, zq_gcs_F hF (fun r' w' _ hw' => if_neg (by omega))⟩
    | succ m =>
      have hp := zq_ix_in (W := W) hr (show w < W by omega)
      obtain ⟨p2, l1, l2, l3⟩ := hA.2 th nu F r w hF hr (by omega)
      obtain ⟨p3, m1, m2, m3⟩ := hB.2 th nu F r w hF hr (by omega)
      have fin : ∀ (th1 : Int → Int) (nu1 : Int → Int64), zq_gcl th1 nu1 ((r : Int) * W + w) (zq_opO g (A F r w) (B F r w)) → (∀ j, j ≠ (r : Int) * W + w → th1 j = th j ∧ nu1 j = nu j) → ∃ th' nu', q_Ev_combine_170 c k50 (q_Ev_combine_63 c k50 f) g v2 v3 v4 r w (zq_gpc S v4 th1 nu1) = k50 g v2 v3 v4 ((r : Int) + 1) (zq_gpc S v4 th' nu') ∧ zq_gcs W L th' nu' (fun r' w' => if r' = r ∧ w ≤ w' then zq_opO g (A F r' w') (B F r' w') else F r' w') := by
        intro th1 nu1 g1 g2
        have := zq_gcs_upd hF (show w < W by omega) g1 g2
        obtain ⟨th', nu', a1, a2⟩ := zq_E_cb63 hg h hw hA hB k50 hr m f (w + 1) th1 nu1 _ (by omega) (by omega) this
        refine ⟨th', nu', ?_, zq_gcs_F a2 (fun r' w' _ _ => ?_)⟩
        · rw [q_Ev_combine_170, ← a1]; rfl
        · by_cases c1 : r' = r ∧ w' = w
          · obtain ⟨rfl, rfl⟩ := c1
            rw [if_pos (by omega), if_neg (by omega), if_pos (by omega)]
          · by_cases c2 : r' = r ∧ w + 1 ≤ w'
            · have eA := hA.1 (fun r'' w'' => if r'' = r ∧ w'' = w then zq_opO g (A F r w) (B F r w) else F r'' w'') F r' w' (if_neg c1)
              have eB := hB.1 (fun r'' w'' => if r'' = r ∧ w'' = w then zq_opO g (A F r w) (B F r w) else F r'' w'') F r' w' (if_neg c1)
              rw [if_pos (by omega), if_pos c2, eA, eB]
            · rw [if_neg (by omega), if_neg c2, if_neg c1]
      have clr : zq_opO g (A F r w) (B F r w) = none → ∃ th' nu', q_Ev_combine_156 c k50 (q_Ev_combine_63 c k50 f) g v2 v3 v4 r w (zq_gpc S v4 th nu) = k50 g v2 v3 v4 ((r : Int) + 1) (zq_gpc S v4 th' nu') ∧ zq_gcs W L th' nu' (fun r' w' => if r' = r ∧ w ≤ w' then zq_opO g (A F r' w') (B F r' w') else F r' w') := by
        intro hn
        rw [q_Ev_combine_156, zq_mb2_eq (zq_g_place h' hr), zq_mb2_eq (zq_g_clear h hp th nu)]
        exact fin _ _ (by rw [hn]; exact zq_gcl_cl _ _ _) (fun j hj => ⟨zq_aU_ne _ _ _ _ hj, rfl⟩)
      rw [if_neg (by omega), zq_mb2_eq l1, zq_mb2_eq m1, zq_mb2_eq l2]
      cases ha : A F r w with
      | none =>
        rw [if_pos rfl, if_pos (by decide)]
        exact clr (by rw [ha]; rfl)
      | some x =>
        rw [ha] at l3
        have n1 : ¬ w32 (if (some x : Option Int64) = none then 0 else 1) = 0 := by rw [if_neg (by simp)]; decide
        rw [if_neg n1, zq_mb2_eq m2]
        cases hb : B F r w with
        | none =>
          rw [if_pos rfl, if_pos (by decide)]
          exact clr (by rw [ha, hb]; rfl)
        | some y =>
          rw [hb] at m3
          have n2 : ¬ w32 (if (some y : Option Int64) = none then 0 else 1) = 0 := by rw [if_neg (by simp)]; decide
          rw [if_neg n2, zq_mb2_eq m3, zq_mb1_eq (zq_e_isAllowed hg _)]
          have ey : (some y : Option Int64).getD (ll 0) = y := rfl
          have ex : (some x : Option Int64).getD (ll 0) = x := rfl
          rw [ey]
          by_cases c1 : y = 0 ∧ (g = 47 ∨ g = 37)
          · rw [if_pos c1, if_pos (by decide)]
            exact clr (by rw [ha, hb]; exact zq_op_no hg x y c1)
          · obtain ⟨z, z1, z2⟩ := zq_e_resultOf hg x y c1
            rw [if_neg c1, if_neg (by decide), zq_mb2_eq (zq_g_place h' hr), zq_mb2_eq l3, zq_mb2_eq m3, ex, ey, zq_mb1_eq z1, zq_mb2_eq (zq_g_put h hp th nu z)]
            exact fin _ _ (by rw [ha, hb, z2]; exact zq_gcl_at _ _ _ _) (fun j hj => ⟨zq_aU_ne _ _ _ _ hj, zq_aU_ne _ _ _ _ hj⟩)
set_option maxRecDepth 100000 in
theorem zq_E_cb50 (hg : zq_bsg g) (h : zq_gok c S v4 L W) (hw : S.ev_windows = W) (hA : zq_rdS c S v4 v2 L W A) (hB : zq_rdS c S v4 v3 L W B) (hh : 2 ≤ S.ev_height ∧ S.ev_height ≤ 19) : ∀ (m f r : Nat) (th : Int → Int) (nu : Int → Int64) (F : zq_FF), r + m = L → m < f → zq_gcs W L th nu F → ∃ th' nu', q_Ev_combine_50 c f g v2 v3 v4 r (zq_gpc S v4 th nu) = some ((), WS.w_ev_height (WS.w_ev_stack (zq_gpc S v4 th' nu') (aU (aU S.ev_stack (S.ev_height - 1) (if v4 = v2 then v3 else v2)) (S.ev_height - 2) v4)) (S.ev_height - 1)) ∧ zq_gcs W L th' nu' (fun r' w' => if r ≤ r' then zq_opO g (A F r' w') (B F r' w') else F r' w')
  | m, 0, r, th, nu, F => by omega
  | m, f + 1, r, th, nu, F => by
    intro hm hf hF
    have hL := h.2.2.1
    have hW := h.2.1
    have e1 : s_Gd_lines c (zq_gpc S v4 th nu) v4 = some ((L : Int), zq_gpc S v4 th nu) := by rw [s_Gd_lines, show (zq_gpc S v4 th nu).gd_lines v4 = L from hL.1]
    rw [q_Ev_combine_50, zq_mb2_eq e1, zq_w32i (z := (L : Int)) (by omega) (by omega), zq_w32i (z := (r : Int)) (by omega) (by omega)]
    cases m with
    | zero =>
      rw [if_pos (by omega)]
      refine ⟨th, nu, ?_, zq_gcs_F hF (fun r' w' hr' _ => if_neg (by omega))⟩
      have e2 : (zq_gpc S v4 th nu).ev_height = S.ev_height := rfl
      by_cases c1 : v4 = v2
      · rw [if_pos c1, if_pos c1, q_Ev_combine_203, e2, if_pos (by omega), if_pos (by omega)]; rfl
      · rw [if_neg c1, if_neg c1, q_Ev_combine_203, e2, if_pos (by omega), if_pos (by omega)]; rfl
    | succ m =>
      rw [if_neg (by omega)]
      obtain ⟨th1, nu1, a1, a2⟩ := zq_E_cb63 hg h hw hA hB (q_Ev_combine_50 c f) (r := r) (by omega) W fU 0 th nu F (by omega) (zq_fU_gt (by omega)) hF
      obtain ⟨th2, nu2, b1, b2⟩ := zq_E_cb50 hg h hw hA hB hh m f (r + 1) th1 nu1 _ (by omega) (by omega) a2
      refine ⟨th2, nu2, ?_, zq_gcs_F b2 (fun r' w' _ _ => ?_)⟩
      · rw [show ((r + 1 : Nat) : Int) = (r : Int) + 1 by omega] at b1
        rw [← b1]; exact a1
      · by_cases c1 : r' = r
        · subst c1; rw [if_pos (by omega), if_neg (by omega), if_pos (by omega)]
        · by_cases c2 : r + 1 ≤ r'
          · have n : ¬ (r' = r ∧ 0 ≤ w') := by omega
            have eA := hA.1 (fun r'' w'' => if r'' = r ∧ 0 ≤ w'' then zq_opO g (A F r'' w'') (B F r'' w'') else F r'' w'') F r' w' (if_neg n)
            have eB := hB.1 (fun r'' w'' => if r'' = r ∧ 0 ≤ w'' then zq_opO g (A F r'' w'') (B F r'' w'') else F r'' w'') F r' w' (if_neg n)
            rw [if_pos (by omega), if_pos c2, eA, eB]
          · rw [if_neg (by omega), if_neg c2, if_neg (by omega)]
end
/-! the program's stack of grids -/
set_option maxRecDepth 100000 in
def zq_KT (Ks : List zq_Key) (ns : List zq_NM) : List zq_Key := if ns = [] then [[]] else Ks
set_option maxRecDepth 100000 in
def zq_FT (Ks : List zq_Key) (t : zq_Tbl) : zq_FF := fun r w => match (zq_KT Ks t.1)[r]? with | some k => t.2 k w | none => none
set_option maxRecDepth 100000 in
def zq_GT (c : CW) (S : WS) (v W : Nat) (Ks : List zq_Key) (t : zq_Tbl) : Prop := zq_gok c S v (zq_KT Ks t.1).length W ∧ (S.gd_named v = if t.1 = [] then 0 else 1) ∧ zq_gcs W (zq_KT Ks t.1).length (S.gd_there v) (S.gd_numbers v) (zq_FT Ks t) ∧ (∀ k w, k ∉ zq_KT Ks t.1 → w < W → t.2 k w = none)
set_option maxRecDepth 100000 in
def zq_SK (c : CW) (S : WS) (W : Nat) (Ks : List zq_Key) (st : List zq_Tbl) : Prop := S.ev_height = st.length ∧ ∀ pre t post, st = pre ++ t :: post → zq_GT c S (S.ev_stack post.length) W Ks t
set_option maxRecDepth 100000 in
def zq_gsm (c : CW) (S : WS) (c' : CW) (S' : WS) (v : Nat) : Prop := (c'.gc v = c.gc v ∧ c'.gd v = c.gd v) ∧ (S'.gd_lines v = S.gd_lines v ∧ S'.gd_windows v = S.gd_windows v ∧ S'.gd_named v = S.gd_named v) ∧ S'.gd_there v = S.gd_there v ∧ S'.gd_numbers v = S.gd_numbers v
set_option maxRecDepth 100000 in
theorem zq_gok_sm {c c' : CW} {S S' : WS} {v L W : Nat} (h : zq_gok c S v L W) (e : zq_gsm c S c' S' v) : zq_gok c' S' v L W := by
  obtain ⟨⟨e1, e2⟩, ⟨e3, e4, e5⟩, e6, e7⟩ := e
  unfold zq_gok at *
  rw [e1, e2, e3, e4, e5]; exact h
set_option maxRecDepth 100000 in
theorem zq_GT_sm {c c' : CW} {S S' : WS} {v W : Nat} {Ks : List zq_Key} {t : zq_Tbl} (h : zq_GT c S v W Ks t) (e : zq_gsm c S c' S' v) : zq_GT c' S' v W Ks t := by
  obtain ⟨h1, h2, h3, h4⟩ := h
  refine ⟨zq_gok_sm h1 e, ?_, ?_, h4⟩
  · rw [e.2.1.2.2]; exact h2
  · rw [e.2.2.1, e.2.2.2]; exact h3
set_option maxRecDepth 100000 in
theorem zq_SK_rest {c c' : CW} {S S' : WS} {W : Nat} {Ks : List zq_Key} {st : List zq_Tbl} (h : ∀ pre t post, st = pre ++ t :: post → zq_GT c S (S.ev_stack post.length) W Ks t) (hs : ∀ j : Nat, j < st.length → S'.ev_stack j = S.ev_stack j ∧ zq_gsm c S c' S' (S.ev_stack j)) : ∀ pre t post, st = pre ++ t :: post → zq_GT c' S' (S'.ev_stack post.length) W Ks t := by
  intro pre t post e
  have hl : post.length < st.length := by rw [e]; simp; omega
  have := hs post.length hl
  rw [this.1]
  exact zq_GT_sm (h pre t post e) this.2
set_option maxRecDepth 100000 in
theorem zq_SK_cons {c' : CW} {S' : WS} {W : Nat} {Ks : List zq_Key} {st : List zq_Tbl} {t : zq_Tbl} (h : ∀ pre t post, st = pre ++ t :: post → zq_GT c' S' (S'.ev_stack post.length) W Ks t) (hh : S'.ev_height = (st.length : Int) + 1) (ht : zq_GT c' S' (S'.ev_stack st.length) W Ks t) : zq_SK c' S' W Ks (t :: st) := by
  refine ⟨by rw [hh]; simp, fun pre t' post e => ?_⟩
  cases pre with
  | nil => simp at e; rw [← e.1, ← e.2]; exact ht
  | cons p pre => simp at e; exact h pre t' post e.2
set_option maxRecDepth 100000 in
/-- what the evaluator may change -/
def zq_evw (S : WS) (h : Int) (sk : Int → Nat) (mo : Int → Int64) (ln wn nm : Nat → Int) (nu : Nat → Int → Int64) (th : Nat → Int → Int) : WS := WS.w_gd_there (WS.w_gd_numbers (WS.w_gd_named (WS.w_gd_windows (WS.w_gd_lines (WS.w_ev_moments (WS.w_ev_stack (WS.w_ev_height S h) sk) mo) ln) wn) nm) nu) th
set_option maxRecDepth 100000 in
def zq_ecw (c : CW) (gc gd : Nat → Int) (mo : Int) (bc bs : Nat) : CW := CW.w_mo (CW.w_bs (CW.w_bc (CW.w_gd (CW.w_gc c gc) gd) bc) bs) mo
set_option maxRecDepth 100000 in
def zq_FE (c : CW) (S : WS) (c' : CW) (S' : WS) : Prop := (∃ gc gd mo bc bs, c' = zq_ecw c gc gd mo bc bs) ∧ ∃ h sk mo ln wn nm nu th, S' = zq_evw S h sk mo ln wn nm nu th
set_option maxRecDepth 100000 in
theorem zq_FE_refl (c : CW) (S : WS) : zq_FE c S c S := ⟨⟨c.gc, c.gd, c.mo, c.bc, c.bs, rfl⟩, S.ev_height, S.ev_stack, S.ev_moments, S.gd_lines, S.gd_windows, S.gd_named, S.gd_numbers, S.gd_there, rfl⟩
set_option maxRecDepth 100000 in
theorem zq_FE_tr {c c1 c2 : CW} {S S1 S2 : WS} (h1 : zq_FE c S c1 S1) (h2 : zq_FE c1 S1 c2 S2) : zq_FE c S c2 S2 := by
  obtain ⟨⟨a, b, d, e, f, rfl⟩, h, sk, mo, ln, wn, nm, nu, th, rfl⟩ := h1
  obtain ⟨⟨a', b', d', e', f', rfl⟩, h', sk', mo', ln', wn', nm', nu', th', rfl⟩ := h2
  exact ⟨⟨a', b', d', e', f', rfl⟩, h', sk', mo', ln', wn', nm', nu', th', rfl⟩
set_option maxRecDepth 100000 in
theorem zq_FE_gpc (c : CW) (S : WS) (v : Nat) (th : Int → Int) (nu : Int → Int64) : zq_FE c S c (zq_gpc S v th nu) := ⟨⟨c.gc, c.gd, c.mo, c.bc, c.bs, rfl⟩, S.ev_height, S.ev_stack, S.ev_moments, S.gd_lines, S.gd_windows, S.gd_named, nU S.gd_numbers v nu, nU S.gd_there v th, rfl⟩
set_option maxRecDepth 100000 in
theorem zq_gsm_gpc (c : CW) (S : WS) {v v' : Nat} (hne : v' ≠ v) (th : Int → Int) (nu : Int → Int64) : zq_gsm c S c (zq_gpc S v th nu) v' := ⟨⟨rfl, rfl⟩, ⟨rfl, rfl, rfl⟩, nU_ne _ _ _ _ hne, nU_ne _ _ _ _ hne⟩
set_option maxRecDepth 100000 in
theorem zq_gsm_tr {c c1 c2 : CW} {S S1 S2 : WS} {v : Nat} (h1 : zq_gsm c S c1 S1 v) (h2 : zq_gsm c1 S1 c2 S2 v) : zq_gsm c S c2 S2 v := by
  obtain ⟨⟨a1, a2⟩, ⟨a3, a4, a5⟩, a6, a7⟩ := h1
  obtain ⟨⟨b1, b2⟩, ⟨b3, b4, b5⟩, b6, b7⟩ := h2
  exact ⟨⟨by rw [b1, a1], by rw [b2, a2]⟩, ⟨by rw [b3, a3], by rw [b4, a4], by rw [b5, a5]⟩, by rw [b6, a6], by rw [b7, a7]⟩
set_option maxRecDepth 100000 in
/-- what stays while the program works -/
def zq_EB (k : Nat) (W : Nat) (fr wd : Int64) (c : CW) (S : WS) : Prop := zq_gdB k c S ∧ c.tc ≤ 20500 ∧ 0 ≤ S.tp_size ∧ k < 512 ∧ zq_RE S ∧ S.ev_windows = W ∧ (1 ≤ W ∧ W ≤ 64) ∧ S.ev_from = fr ∧ S.ev_width = wd
set_option maxRecDepth 100000 in
theorem zq_w_push {k W : Nat} {fr wd : Int64} {c : CW} {S : WS} (hE : zq_EB k W fr wd c S) {h : Nat} (hh : S.ev_height = h) (h18 : h ≤ 18) {L : Nat} (hL : L ≤ 256) {nm : Int} (hnm : (nm = 0 ∧ L = 1) ∨ nm = 1) : ∃ c' S', s_Ev_push c S L nm = some (S.ev_stack h, c', S') ∧ S.ev_stack h < 19 ∧ zq_FE c S c' S' ∧ zq_EB k W fr wd c' S' ∧ (S'.ev_stack = S.ev_stack ∧ S'.ev_height = (h : Int) + 1) ∧ (∀ v, v ≠ S.ev_stack h → zq_gsm c S c' S' v) ∧ zq_gok c' S' (S.ev_stack h) L W ∧ S'.gd_named (S.ev_stack h) = nm ∧ zq_gcs W L (S'.gd_there (S.ev_stack h)) (S'.gd_numbers (S.ev_stack h)) (fun _ _ => none) ∧ (c'.mo = c.mo ∧ S'.ev_moments = S.ev_moments) := by
  obtain ⟨e1, e2, e3, e4, e5, e6, e7, e8, e9⟩ := hE
  have hv := e5.1 h (by omega) (by omega)
  obtain ⟨c', th, nu, a1, ⟨x, bc, bs, rfl⟩, a3, a4, a5⟩ := zq_w_shape (S := WS.w_ev_height S (S.ev_height + 1)) e1 e2 e3 e4 hv (L := L) (W := W) (nm := nm) (by omega) (by omega) (by omega)
  have hst : (WS.w_ev_height S (S.ev_height + 1)).ev_stack ((WS.w_ev_height S (S.ev_height + 1)).ev_height - 1) = S.ev_stack h := by
    show S.ev_stack (S.ev_height + 1 - 1) = _
    rw [hh, show (h : Int) + 1 - 1 = h by omega]
  refine ⟨zq_gcw c (S.ev_stack h) x bc bs, zq_gsw (WS.w_ev_height S (S.ev_height + 1)) (S.ev_stack h) L W nm th nu, ?_, hv, ⟨⟨_, _, c.mo, bc, bs, rfl⟩, S.ev_height + 1, S.ev_stack, S.ev_moments, _, _, _, _, _, rfl⟩, ⟨a3, e2, e3, e4, e5, e6, e7, e8, e9⟩, ⟨rfl, by show S.ev_height + 1 = _; rw [hh]⟩, fun v hv' => ?_, ?_, nU_at _ _ _, ?_, ⟨rfl, rfl⟩⟩
  · rw [s_Ev_push, hh, zq_w32i (z := (h : Int)) (by omega) (by omega), if_neg (by omega), ← hh, q_Ev_push_22]
    rw [if_pos (show (0 : Int) ≤ (WS.w_ev_height S (S.ev_height + 1)).ev_height - 1 ∧ (WS.w_ev_height S (S.ev_height + 1)).ev_height - 1 < 19 from ⟨by show 0 ≤ S.ev_height + 1 - 1; omega, by show S.ev_height + 1 - 1 < 19; omega⟩), hst, if_pos hv, show (WS.w_ev_height S (S.ev_height + 1)).ev_windows = W from e6, zq_mb3_eq a1, hh]
  · exact ⟨⟨nU_ne _ _ _ _ hv', nU_ne _ _ _ _ hv'⟩, ⟨nU_ne _ _ _ _ hv', nU_ne _ _ _ _ hv', nU_ne _ _ _ _ hv'⟩, nU_ne _ _ _ _ hv', nU_ne _ _ _ _ hv'⟩
  · refine ⟨nU_at _ _ _, e7, ⟨nU_at _ _ _, hL⟩, ?_, ?_, a4.2.1, a4.2.2⟩
    · rcases hnm with z | z
      · exact Or.inl ⟨(nU_at _ _ _).trans z.1, z.2⟩
      · exact Or.inr ((nU_at _ _ _).trans z)
    · rw [Int.natCast_mul]; exact a4.1
  · intro r w hr hw
    have hp := zq_ix_in (W := W) hr hw
    rw [Int.natCast_mul] at hp
    show (nU S.gd_there (S.ev_stack h) th) (S.ev_stack h) ((r : Int) * W + w) = 0
    rw [nU_at]
    exact a5 _ hp.1 hp.2
set_option maxRecDepth 100000 in
theorem zq_E_pn10 {c : CW} {S : WS} {v W : Nat} (h : zq_gok c S v 1 W) (hw : S.ev_windows = W) (x : Int64) : ∀ (m f w : Nat) (th : Int → Int) (nu : Int → Int64) (F : zq_FF), w + m = W → m < f → zq_gcs W 1 th nu F → ∃ th' nu', q_Ev_pushNumber_10 f c x v w (zq_gpc S v th nu) = some ((), c, zq_gpc S v th' nu') ∧ zq_gcs W 1 th' nu' (fun r' w' => if w ≤ w' then some x else F r' w')
  | m, 0, w, th, nu, F => by omega
  | m, f + 1, w, th, nu, F => by
    intro hm hf hF
    have hW := h.2.1
    rw [q_Ev_pushNumber_10, show (zq_gpc S v th nu).ev_windows = W from hw, zq_w32i (z := (W : Int)) (by omega) (by omega), zq_w32i (z := (w : Int)) (by omega) (by omega)]
    cases m with
    | zero => rw [if_pos (by omega)]; exact ⟨th, nu, rfl, zq_gcs_F hF (fun r' w' _ hw' => if_neg (by omega))⟩
    | succ m =>
      have hp := zq_ix_in (L := 1) (W := W) (r := 0) (by omega) (show w < W by omega)
      have e0 : ((0 : Nat) : Int) * W + w = w := by simp
      rw [e0] at hp
      rw [if_neg (by omega), zq_mb2_eq (zq_g_put h hp th nu x)]
      have hF' := zq_gcs_upd (r0 := 0) (w0 := w) hF (by omega) (o := some x) (by rw [e0]; exact zq_gcl_at th nu w x) (fun j hj => by rw [e0] at hj; exact ⟨zq_aU_ne _ _ _ _ hj, zq_aU_ne _ _ _ _ hj⟩)
      obtain ⟨th', nu', a1, a2⟩ := zq_E_pn10 h hw x m f (w + 1) _ _ _ (by omega) (by omega) hF'
      refine ⟨th', nu', ?_, zq_gcs_F a2 (fun r' w' hr' _ => ?_)⟩
      · rw [← a1]; rfl
      · by_cases c1 : w' = w
        · subst c1; rw [if_pos (by omega), if_neg (by omega), if_pos ⟨by omega, rfl⟩]
        · by_cases c2 : w + 1 ≤ w'
          · rw [if_pos (by omega), if_pos c2]
          · rw [if_neg (by omega), if_neg c2, if_neg (by omega)]
set_option maxRecDepth 100000 in
theorem zq_w_number {k W : Nat} {fr wd : Int64} {c : CW} {S : WS} (hE : zq_EB k W fr wd c S) {Ks : List zq_Key} {st : List zq_Tbl} (hS : zq_SK c S W Ks st) (h18 : st.length ≤ 18) (x : Int64) : ∃ c' S', s_Ev_pushNumber c S x = some ((), c', S') ∧ zq_FE c S c' S' ∧ zq_EB k W fr wd c' S' ∧ zq_SK c' S' W Ks (([], fun k w => if k = [] ∧ w < W then some x else none) :: st) := by
  obtain ⟨c', S', a1, a2, a3, a4, ⟨a5, a5'⟩, a6, a7, a8, a9, -⟩ := zq_w_push hE hS.1 h18 (L := 1) (by omega) (nm := 0) (Or.inl ⟨rfl, rfl⟩)
  obtain ⟨th, nu, b1, b2⟩ := zq_E_pn10 a7 a4.2.2.2.2.2.1 x W fU 0 _ _ _ (by omega) (zq_fU_gt (by have := a4.2.2.2.2.2.2.1; omega)) a9
  rw [zq_gpc_id] at b1
  have hRE := hE.2.2.2.2.1
  refine ⟨c', _, ?_, zq_FE_tr a3 (zq_FE_gpc c' S' (S.ev_stack st.length) th nu), a4, zq_SK_cons (zq_SK_rest hS.2 (fun j hj => ?_)) a5' ?_⟩
  · have a1' : s_Ev_push c S 1 0 = some (S.ev_stack st.length, c', S') := a1
    rw [s_Ev_pushNumber, zq_mb3_eq a1', if_pos a2]; exact b1
  · have hne : S.ev_stack j ≠ S.ev_stack st.length := fun z => by have := hRE.2 j st.length (by omega) (by omega) (by omega) (by omega) z; omega
    refine ⟨by show S'.ev_stack j = _; rw [a5], zq_gsm_tr (a6 _ hne) (zq_gsm_gpc _ _ hne _ _)⟩
  · show zq_GT c' _ (S'.ev_stack st.length) W Ks _
    rw [a5]
    refine ⟨a7, ?_, ?_, ?_⟩
    · show S'.gd_named _ = _; rw [a8]; rfl
    · rw [zq_gpc_th, zq_gpc_nu]
      refine zq_gcs_F b2 (fun r' w' hr' hw' => ?_)
      have hr2 : r' < 1 := hr'
      have : r' = 0 := by omega
      subst this
      show (if ([] : zq_Key) = [] ∧ w' < W then some x else none) = _
      rw [if_pos ⟨rfl, hw'⟩, if_pos (by omega)]
    · intro k w hk hw
      have : k ≠ [] := fun z => hk (by rw [z]; simp [zq_KT])
      show (if k = [] ∧ w < W then some x else none) = none
      rw [if_neg (fun z => this z.1)]
set_option maxRecDepth 100000 in
theorem zq_w_negate {k W : Nat} {fr wd : Int64} {c : CW} {S : WS} (hE : zq_EB k W fr wd c S) {Ks : List zq_Key} {st : List zq_Tbl} {t : zq_Tbl} (hS : zq_SK c S W Ks (t :: st)) (h18 : st.length ≤ 18) : ∃ S', s_Ev_negate c S = some ((), S') ∧ zq_FE c S c S' ∧ zq_EB k W fr wd c S' ∧ zq_SK c S' W Ks ((t.1, fun k w => (t.2 k w).map (fun x => -x)) :: st) := by
  have hRE := hE.2.2.2.2.1
  have hW := hE.2.2.2.2.2.2.1
  have hh := hS.1
  simp only [List.length_cons] at hh
  have hv := hRE.1 st.length (by omega) (by omega)
  have hG := hS.2 [] t st rfl
  obtain ⟨th, nu, b1, b2⟩ := zq_E_ng23 hG.1 hE.2.2.2.2.2.1 (zq_KT Ks t.1).length fU 0 _ _ _ (by omega) (zq_fU_gt (by have := hG.1.2.2.1.2; omega)) hG.2.2.1
  rw [zq_gpc_id] at b1
  have eh : S.ev_height - 1 = (st.length : Int) := by omega
  refine ⟨_, ?_, zq_FE_gpc c S (S.ev_stack st.length) th nu, hE, zq_SK_cons (zq_SK_rest (fun pre t' post e => hS.2 (t :: pre) t' post (by rw [e]; rfl)) (fun j hj => ?_)) (by show S.ev_height = _; omega) ?_⟩
  · rw [s_Ev_negate, zq_w32i (z := S.ev_height) (by omega) (by omega), if_pos (by omega), if_pos (by omega), eh, if_pos hv]; exact b1
  · have hne : S.ev_stack j ≠ S.ev_stack st.length := fun z => by have := hRE.2 j st.length (by omega) (by omega) (by omega) (by omega) z; omega
    exact ⟨rfl, zq_gsm_gpc _ _ hne _ _⟩
  · refine ⟨hG.1, hG.2.1, ?_, fun k w hk hw => ?_⟩
    · show zq_gcs W _ ((zq_gpc S (S.ev_stack st.length) th nu).gd_there (S.ev_stack st.length)) ((zq_gpc S (S.ev_stack st.length) th nu).gd_numbers (S.ev_stack st.length)) _
      rw [zq_gpc_th, zq_gpc_nu]
      refine zq_gcs_F b2 (fun r' w' hr' hw' => ?_)
      rw [if_pos (by omega)]
      unfold zq_FT zq_ngO
      show (match (zq_KT Ks t.1)[r']? with | some k => (t.2 k w').map (fun x => -x) | none => none) = _
      cases (zq_KT Ks t.1)[r']? <;> rfl
    · show (t.2 k w).map (fun x => -x) = none
      rw [hG.2.2.2 k w hk hw]; rfl
set_option maxRecDepth 100000 in
theorem zq_RE_sw {S S' : WS} (h : zq_RE S) {p : Int} (hp : 0 ≤ p ∧ p + 1 < 19) {a b : Nat} (hab : (a = S.ev_stack p ∧ b = S.ev_stack (p + 1)) ∨ (a = S.ev_stack (p + 1) ∧ b = S.ev_stack p)) (e : S'.ev_stack = aU (aU S.ev_stack (p + 1) b) p a) : zq_RE S' := by
  have ev : ∀ j, S'.ev_stack j = if j = p then a else if j = p + 1 then b else S.ev_stack j := by
    intro j; rw [e]; unfold aU; rfl
  have hd : S.ev_stack p ≠ S.ev_stack (p + 1) := fun z => by have := h.2 p (p + 1) (by omega) (by omega) (by omega) (by omega) z; omega
  have h1 := h.1 p (by omega) (by omega)
  have h2 := h.1 (p + 1) (by omega) (by omega)
  -- the stack after it is the stack before it, two places exchanged or not
  have ex : ∃ f : Int → Int, (∀ j, 0 ≤ j → j < 19 → 0 ≤ f j ∧ f j < 19) ∧ (∀ i j, f i = f j → i = j) ∧ ∀ j, S'.ev_stack j = S.ev_stack (f j) := by
    rcases hab with ⟨rfl, rfl⟩ | ⟨rfl, rfl⟩
    · refine ⟨id, fun j a b => ⟨a, b⟩, fun i j e => e, fun j => ?_⟩
      rw [ev]
      by_cases c1 : j = p
      · rw [if_pos c1, c1]; rfl
      · rw [if_neg c1]
        by_cases c2 : j = p + 1
        · rw [if_pos c2, c2]; rfl
        · rw [if_neg c2]; rfl
    · refine ⟨fun j => if j = p then p + 1 else if j = p + 1 then p else j, fun j a b => by dsimp only; split <;> (try split) <;> omega, fun i j e => by dsimp only at e; split at e <;> (try split at e) <;> (try split at e) <;> (try split at e) <;> omega, fun j => ?_⟩
      rw [ev]
      by_cases c1 : j = p
      · simp only [if_pos c1]
      · simp only [if_neg c1]
        by_cases c2 : j = p + 1
        · simp only [if_pos c2]
        · simp only [if_neg c2]
  obtain ⟨f, f1, f2, f3⟩ := ex
  refine ⟨fun j a b => by rw [f3]; exact h.1 _ (f1 j a b).1 (f1 j a b).2, fun i j a b a' b' z => ?_⟩
  rw [f3, f3] at z
  exact f2 i j (h.2 _ _ (f1 i a b).1 (f1 i a b).2 (f1 j a' b').1 (f1 j a' b').2 z)
set_option maxRecDepth 100000 in
theorem zq_KT_len {Ks : List zq_Key} {ns : List zq_NM} (h : ns ≠ []) : zq_KT Ks ns = Ks := if_neg h
set_option maxRecDepth 100000 in
theorem zq_KT_nil {Ks : List zq_Key} : zq_KT Ks [] = [[]] := rfl
set_option maxRecDepth 100000 in
theorem zq_w_combine {k W : Nat} {fr wd : Int64} {c : CW} {S : WS} (hE : zq_EB k W fr wd c S) {Ks : List zq_Key} {st : List zq_Tbl} {a b : zq_Tbl} (hS : zq_SK c S W Ks (b :: a :: st)) (h18 : st.length ≤ 17) {g : Int} (hg : zq_bsg g) : ∃ S', s_Ev_combine c S g = some ((), S') ∧ zq_FE c S c S' ∧ zq_EB k W fr wd c S' ∧ zq_SK c S' W Ks (zq_joinT g a b :: st) := by
  have hRE := hE.2.2.2.2.1
  have hW := hE.2.2.2.2.2.2.1
  have hh := hS.1
  simp only [List.length_cons] at hh
  have eh1 : S.ev_height - 1 = (st.length : Int) + 1 := by omega
  have eh2 : S.ev_height - 2 = (st.length : Int) := by omega
  have hv3 := hRE.1 ((st.length : Int) + 1) (by omega) (by omega)
  have hv2 := hRE.1 (st.length : Int) (by omega) (by omega)
  have hG3 : zq_GT c S (S.ev_stack ((st.length : Int) + 1)) W Ks b := by
    have := hS.2 [] b (a :: st) rfl
    simp only [List.length_cons] at this
    rw [show ((st.length + 1 : Nat) : Int) = (st.length : Int) + 1 by omega] at this
    exact this
  have hG2 : zq_GT c S (S.ev_stack (st.length : Int)) W Ks a := hS.2 [b] a st rfl
  have hne : S.ev_stack (st.length : Int) ≠ S.ev_stack ((st.length : Int) + 1) := fun z => by have := hRE.2 _ _ (by omega) (by omega) (by omega) (by omega) z; omega
  generalize hv2' : S.ev_stack (st.length : Int) = v2 at *
  generalize hv3' : S.ev_stack ((st.length : Int) + 1) = v3 at *
  have efr : ∀ (v4 : Nat) (th : Int → Int) (nu : Int → Int64) (o : Nat), zq_FE c S c (WS.w_ev_height (WS.w_ev_stack (zq_gpc S v4 th nu) (aU (aU S.ev_stack (S.ev_height - 1) o) (S.ev_height - 2) v4)) (S.ev_height - 1)) := fun v4 th nu o => ⟨⟨c.gc, c.gd, c.mo, c.bc, c.bs, rfl⟩, S.ev_height - 1, aU (aU S.ev_stack (S.ev_height - 1) o) (S.ev_height - 2) v4, S.ev_moments, S.gd_lines, S.gd_windows, S.gd_named, nU S.gd_numbers v4 nu, nU S.gd_there v4 th, rfl⟩
  -- what both ways have in common
  have fin : ∀ (v4 o : Nat) (th : Int → Int) (nu : Int → Int64), ((v4 = v2 ∧ o = v3) ∨ (v4 = v3 ∧ o = v2)) → zq_GT c (zq_gpc S v4 th nu) v4 W Ks (zq_joinT g a b) → zq_EB k W fr wd c (WS.w_ev_height (WS.w_ev_stack (zq_gpc S v4 th nu) (aU (aU S.ev_stack (S.ev_height - 1) o) (S.ev_height - 2) v4)) (S.ev_height - 1)) ∧ zq_SK c (WS.w_ev_height (WS.w_ev_stack (zq_gpc S v4 th nu) (aU (aU S.ev_stack (S.ev_height - 1) o) (S.ev_height - 2) v4)) (S.ev_height - 1)) W Ks (zq_joinT g a b :: st) := by
    intro v4 o th nu hvo hGT
    obtain ⟨e1, e2, e3, e4, e5, e6, e7, e8, e9⟩ := hE
    refine ⟨⟨e1, e2, e3, e4, ?_, e6, e7, e8, e9⟩, zq_SK_cons (zq_SK_rest (fun pre t' post e => hS.2 (b :: a :: pre) t' post (by rw [e]; rfl)) (fun j hj => ?_)) (by show S.ev_height - 1 = _; omega) ?_⟩
    · refine zq_RE_sw hRE (p := (st.length : Int)) (by omega) (a := v4) (b := o) (by rw [hv2', hv3']; exact hvo) ?_
      show aU (aU S.ev_stack (S.ev_height - 1) o) (S.ev_height - 2) v4 = _
      rw [eh1, eh2]
    · have n2 : S.ev_stack j ≠ v2 := fun z => by have := hRE.2 j st.length (by omega) (by omega) (by omega) (by omega) (by rw [z, hv2']); omega
      have n3 : S.ev_stack j ≠ v3 := fun z => by have := hRE.2 j ((st.length : Int) + 1) (by omega) (by omega) (by omega) (by omega) (by rw [z, hv3']); omega
      refine ⟨?_, zq_gsm_gpc _ _ (by omega) _ _⟩
      show aU (aU S.ev_stack (S.ev_height - 1) o) (S.ev_height - 2) v4 j = _
      rw [eh1, eh2, zq_aU_ne _ _ _ _ (by omega), zq_aU_ne _ _ _ _ (by omega)]
    · have : (WS.w_ev_height (WS.w_ev_stack (zq_gpc S v4 th nu) (aU (aU S.ev_stack (S.ev_height - 1) o) (S.ev_height - 2) v4)) (S.ev_height - 1)).ev_stack st.length = v4 := by
        show aU (aU S.ev_stack (S.ev_height - 1) o) (S.ev_height - 2) v4 st.length = v4
        rw [eh2, zq_aU_at]
      rw [this]; exact hGT
  have ein : s_Gd_isNamed c S v3 = some (S.gd_named v3, S) := by
    rw [s_Gd_isNamed, if_pos]
    rw [hG3.2.1]; split <;> simp
  have est : s_Ev_combine c S g = if w32 (S.gd_named v3) = 0 then q_Ev_combine_50 c fU g v2 v3 v2 0 S else q_Ev_combine_50 c fU g v2 v3 v3 0 S := by
    rw [s_Ev_combine, zq_w32i (z := S.ev_height) (by omega) (by omega), if_pos (by omega), if_pos (by omega), eh1, eh2, hv2', hv3', if_pos hv2, if_pos (by omega), if_pos hv3, zq_mb2_eq ein, q_Ev_combine_45, q_Ev_combine_45]
  have hL2 := hG2.1.2.2.1.2
  have hL3 := hG3.1.2.2.1.2
  by_cases c1 : b.1 = []
  · have hn3 : S.gd_named v3 = 0 := by rw [hG3.2.1, if_pos c1]
    have hl3 : (zq_KT Ks b.1).length = 1 := by rw [c1]; rfl
    rw [est, hn3, if_pos (by decide)]
    obtain ⟨th, nu, b1, b2⟩ := zq_E_cb50 hg hG2.1 hE.2.2.2.2.2.1 (zq_rdS_self hG2.1) (zq_rdS_other (L := (zq_KT Ks a.1).length) (fun z => hne z.symm) hG3.1 hG3.2.2.1 (Or.inl ⟨hn3, hl3⟩)) (by omega) (zq_KT Ks a.1).length fU 0 _ _ _ (by omega) (zq_fU_gt (by omega)) hG2.2.2.1
    rw [zq_gpc_id, if_pos rfl] at b1
    have ej : (zq_joinT g a b).1 = a.1 := by
      show (if a.1 = [] then b.1 else a.1) = a.1
      split
      · rename_i z; rw [z, c1]
      · rfl
    have hGT : zq_GT c (zq_gpc S v2 th nu) v2 W Ks (zq_joinT g a b) := by
      unfold zq_GT
      rw [ej]
      refine ⟨hG2.1, hG2.2.1, ?_, fun k w hk hw => ?_⟩
      · rw [zq_gpc_th, zq_gpc_nu]
        refine zq_gcs_F b2 (fun r w hr hw => ?_)
        rw [if_pos (by omega), if_pos hn3]
        unfold zq_FT
        rw [ej]
        have hk : (zq_KT Ks a.1)[r]? = some ((zq_KT Ks a.1)[r]'hr) := List.getElem?_eq_getElem _
        simp only [id, hk]
        rw [c1]
        show (if a.1 = [] ∧ b.1 = [] ∧ (zq_KT Ks a.1)[r] ≠ [] then none else zq_opO g (a.2 (if a.1 = [] then [] else (zq_KT Ks a.1)[r]) w) (b.2 (if b.1 = [] then [] else (zq_KT Ks a.1)[r]) w)) = zq_opO g (a.2 (zq_KT Ks a.1)[r] w) (b.2 [] w)
        rw [if_pos c1]
        by_cases c2 : a.1 = []
        · have hr' : (zq_KT Ks a.1)[r] = [] := by
            have hm : (zq_KT Ks a.1)[r] ∈ zq_KT Ks a.1 := List.getElem_mem _
            generalize (zq_KT Ks a.1)[r] = q at hm ⊢
            rw [c2, zq_KT_nil] at hm
            simpa using hm
          rw [if_neg (fun z => z.2.2 hr'), if_pos c2, hr']
        · rw [if_neg (fun z => c2 z.1), if_neg c2]
      · show (if a.1 = [] ∧ b.1 = [] ∧ k ≠ [] then none else zq_opO g (a.2 (if a.1 = [] then [] else k) w) (b.2 (if b.1 = [] then [] else k) w)) = none
        by_cases c2 : a.1 = []
        · rw [if_pos ⟨c2, c1, fun z => hk (by rw [c2, z]; simp [zq_KT])⟩]
        · rw [if_neg (fun z => c2 z.1), if_neg c2, hG2.2.2.2 k w hk hw]; rfl
    have f := fin v2 v3 th nu (Or.inl ⟨rfl, rfl⟩) hGT
    exact ⟨_, b1, efr v2 th nu v3, f.1, f.2⟩
  · have hn3 : S.gd_named v3 = 1 := by rw [hG3.2.1, if_neg c1]
    rw [est, hn3, if_neg (by decide)]
    have hlr : (S.gd_named v2 = 0 ∧ (zq_KT Ks a.1).length = 1) ∨ (S.gd_named v2 = 1 ∧ (zq_KT Ks b.1).length ≤ (zq_KT Ks a.1).length) := by
      by_cases c2 : a.1 = []
      · exact Or.inl ⟨by rw [hG2.2.1, if_pos c2], by rw [c2]; rfl⟩
      · exact Or.inr ⟨by rw [hG2.2.1, if_neg c2], by rw [zq_KT_len c1, zq_KT_len c2]; exact Nat.le_refl _⟩
    obtain ⟨th, nu, b1, b2⟩ := zq_E_cb50 hg hG3.1 hE.2.2.2.2.2.1 (zq_rdS_other (L := (zq_KT Ks b.1).length) hne hG2.1 hG2.2.2.1 hlr) (zq_rdS_self hG3.1) (by omega) (zq_KT Ks b.1).length fU 0 _ _ _ (by omega) (zq_fU_gt (by omega)) hG3.2.2.1
    rw [zq_gpc_id, if_neg (fun z => hne z.symm)] at b1
    have ek : zq_KT Ks (zq_joinT g a b).1 = zq_KT Ks b.1 := by
      show zq_KT Ks (if a.1 = [] then b.1 else a.1) = _
      split
      · rfl
      · rename_i z; rw [zq_KT_len z, zq_KT_len c1]
    have en : ¬ (zq_joinT g a b).1 = [] := by
      show ¬ (if a.1 = [] then b.1 else a.1) = []
      split
      · exact c1
      · rename_i z; exact z
    have hGT : zq_GT c (zq_gpc S v3 th nu) v3 W Ks (zq_joinT g a b) := by
      unfold zq_GT
      rw [ek, if_neg en]
      refine ⟨hG3.1, hn3, ?_, fun k w hk hw => ?_⟩
      · rw [zq_gpc_th, zq_gpc_nu]
        refine zq_gcs_F b2 (fun r w hr hw => ?_)
        rw [if_pos (by omega)]
        unfold zq_FT
        rw [ek]
        have hk : (zq_KT Ks b.1)[r]? = some ((zq_KT Ks b.1)[r]'hr) := List.getElem?_eq_getElem _
        simp only [id, hk]
        show (if a.1 = [] ∧ b.1 = [] ∧ (zq_KT Ks b.1)[r] ≠ [] then none else zq_opO g (a.2 (if a.1 = [] then [] else (zq_KT Ks b.1)[r]) w) (b.2 (if b.1 = [] then [] else (zq_KT Ks b.1)[r]) w)) = _
        rw [if_neg (fun z => c1 z.2.1), if_neg c1]
        by_cases c2 : a.1 = []
        · rw [if_pos c2, show S.gd_named v2 = 0 by rw [hG2.2.1, if_pos c2], if_pos rfl, c2]; rfl
        · have hk2 : (zq_KT Ks a.1)[r]? = some ((zq_KT Ks b.1)[r]'hr) := (congrArg (fun l : List zq_Key => l[r]?) ((zq_KT_len c2).trans (zq_KT_len (Ks := Ks) c1).symm)).trans hk
          rw [if_neg c2, show S.gd_named v2 = 1 by rw [hG2.2.1, if_neg c2], if_neg (by decide), hk2]
      · show (if a.1 = [] ∧ b.1 = [] ∧ k ≠ [] then none else zq_opO g (a.2 (if a.1 = [] then [] else k) w) (b.2 (if b.1 = [] then [] else k) w)) = none
        rw [if_neg (fun z => c1 z.2.1), if_neg c1, hG3.2.2.2 k w hk hw]
        generalize a.2 _ w = q
        cases q <;> rfl
    have f := fin v3 v2 th nu (Or.inr ⟨rfl, rfl⟩) hGT
    exact ⟨_, b1, efr v3 th nu v2, f.1, f.2⟩
/-! points come to a cell in any order -/
set_option maxRecDepth 100000 in
def zq_annG (s : Int) : Option Int64 → List zq_P3 → List zq_CT
  | _, [] => []
  | p, x :: r => (s, x.1, x.2.1, p) :: zq_annG s (some x.2.1) r
set_option maxRecDepth 100000 in
theorem zq_annF_ser (s : Int) : ∀ (l : List zq_P4) (prev : Int → Option Int64), (zq_annF prev l).filter (fun x => x.1 == s) = zq_annG s (prev s) (zq_serP s l)
  | [], prev => rfl
  | x :: r, prev => by
    have ih := zq_annF_ser s r (aU prev x.1 (some x.2.2.1))
    rw [zq_annF, List.filter_cons]
    unfold zq_serP at *
    rw [List.filter_cons]
    by_cases c : x.1 = s
    · subst c
      rw [if_pos (by simp), if_pos (by simp), ih, zq_aU_at, List.map_cons, zq_annG]; rfl
    · rw [if_neg (by simpa using c), if_neg (by simpa using c), ih, zq_aU_ne _ _ _ _ (fun z => c z.symm)]
set_option maxRecDepth 100000 in
theorem zq_annG_mem (s : Int) : ∀ (l : List zq_P3) (p : Option Int64), ∀ x ∈ zq_annG s p l, x.1 = s
  | [], p, x, h => by simp [zq_annG] at h
  | y :: r, p, x, h => by
    rw [zq_annG] at h
    rcases List.mem_cons.mp h with z | z
    · rw [z]
    · exact zq_annG_mem s r _ x z
set_option maxRecDepth 100000 in
theorem zq_annG_time (s : Int) : ∀ (l : List zq_P3) (p : Option Int64), ∀ x ∈ zq_annG s p l, ∃ y ∈ l, x.2.1 = y.1
  | [], p, x, h => by simp [zq_annG] at h
  | y :: r, p, x, h => by
    rw [zq_annG] at h
    rcases List.mem_cons.mp h with z | z
    · exact ⟨y, by simp, by rw [z]⟩
    · obtain ⟨w, h1, h2⟩ := zq_annG_time s r _ x z
      exact ⟨w, List.mem_cons_of_mem _ h1, h2⟩
set_option maxRecDepth 100000 in
theorem zq_annG_inc (s : Int) : ∀ (l : List zq_P3) (p : Option Int64), l.Pairwise (fun a b => a.1.toInt < b.1.toInt) → (zq_annG s p l).Pairwise (fun a b => a.2.1.toInt < b.2.1.toInt)
  | [], p, h => List.Pairwise.nil
  | y :: r, p, h => by
    rw [zq_annG]
    rw [List.pairwise_cons] at h ⊢
    refine ⟨fun a ha => ?_, zq_annG_inc s r _ h.2⟩
    obtain ⟨w, h1, h2⟩ := zq_annG_time s r _ a ha
    show y.1.toInt < a.2.1.toInt
    rw [h2]; exact h.1 w h1
set_option maxRecDepth 100000 in
theorem zq_i64rc (a b c : Int64) : a + b + c = a + c + b := by rw [Int64.add_assoc, Int64.add_comm b c, ← Int64.add_assoc]
set_option maxRecDepth 100000 in
theorem zq_mx_c2 (b c : Int64) : (if c.toInt ≤ b.toInt then b else c) = (if b.toInt ≤ c.toInt then c else b) := by
  apply Int64.toInt_inj.mp
  by_cases h3 : b.toInt ≤ c.toInt <;> by_cases h4 : c.toInt ≤ b.toInt <;> simp only [h3, h4, if_true, if_false] <;> omega
set_option maxRecDepth 100000 in
theorem zq_mn_comm (a b c : Int64) : (if (if a.toInt ≤ b.toInt then a else b).toInt ≤ c.toInt then (if a.toInt ≤ b.toInt then a else b) else c) = (if (if a.toInt ≤ c.toInt then a else c).toInt ≤ b.toInt then (if a.toInt ≤ c.toInt then a else c) else b) := by
  apply Int64.toInt_inj.mp
  by_cases h1 : a.toInt ≤ b.toInt <;> by_cases h2 : a.toInt ≤ c.toInt <;> by_cases h3 : b.toInt ≤ c.toInt <;> by_cases h4 : c.toInt ≤ b.toInt <;> simp only [h1, h2, h3, h4, if_true, if_false] <;> omega
set_option maxRecDepth 100000 in
theorem zq_mn_c2 (b c : Int64) : (if b.toInt ≤ c.toInt then b else c) = (if c.toInt ≤ b.toInt then c else b) := by
  apply Int64.toInt_inj.mp
  by_cases h3 : b.toInt ≤ c.toInt <;> by_cases h4 : c.toInt ≤ b.toInt <;> simp only [h3, h4, if_true, if_false] <;> omega
set_option maxRecDepth 100000 in
theorem zq_mx_comm (a b c : Int64) : (if c.toInt ≤ (if b.toInt ≤ a.toInt then a else b).toInt then (if b.toInt ≤ a.toInt then a else b) else c) = (if b.toInt ≤ (if c.toInt ≤ a.toInt then a else c).toInt then (if c.toInt ≤ a.toInt then a else c) else b) := by
  apply Int64.toInt_inj.mp
  by_cases h1 : b.toInt ≤ a.toInt <;> by_cases h2 : c.toInt ≤ a.toInt <;> by_cases h3 : b.toInt ≤ c.toInt <;> by_cases h4 : c.toInt ≤ b.toInt <;> simp only [h1, h2, h3, h4, if_true, if_false] <;> omega
set_option maxRecDepth 100000 in
theorem zq_cst1 (s : zq_CS) (x : zq_CT) : zq_cst 1 s x = some (((match s with | some y => y.1 | none => ll 0) + x.2.2.1), 0, 0) := by unfold zq_cst; rw [if_pos rfl]; cases s <;> rfl
set_option maxRecDepth 100000 in
theorem zq_cst2 (s : zq_CS) (x : zq_CT) : zq_cst 2 s x = some (((match s with | some y => y.1 | none => ll 0) + ll 1), 0, 0) := by unfold zq_cst; rw [if_neg (by decide), if_pos rfl]; cases s <;> rfl
set_option maxRecDepth 100000 in
theorem zq_cst3 (s : zq_CS) (x : zq_CT) : zq_cst 3 s x = some ((match s with | some y => (if y.1.toInt ≤ x.2.2.1.toInt then y.1 else x.2.2.1) | none => x.2.2.1), 0, 0) := by unfold zq_cst; rw [if_neg (by decide), if_neg (by decide), if_pos rfl]; cases s <;> rfl
set_option maxRecDepth 100000 in
theorem zq_cst4 (s : zq_CS) (x : zq_CT) : zq_cst 4 s x = some ((match s with | some y => (if x.2.2.1.toInt ≤ y.1.toInt then y.1 else x.2.2.1) | none => x.2.2.1), 0, 0) := by unfold zq_cst; rw [if_neg (by decide), if_neg (by decide), if_neg (by decide), if_pos rfl]; cases s <;> rfl
set_option maxRecDepth 100000 in
theorem zq_cst5 (s : zq_CS) (q : zq_CT) : zq_cst 5 s q = (match s with | some y => (if q.2.1.toInt < y.2.1 ∨ (q.2.1.toInt = y.2.1 ∧ q.1 < y.2.2) then some (q.2.2.1, q.2.1.toInt, q.1) else some y) | none => some (q.2.2.1, q.2.1.toInt, q.1)) := by unfold zq_cst; rw [if_neg (by decide), if_neg (by decide), if_neg (by decide), if_neg (by decide), if_pos rfl]; cases s <;> rfl
set_option maxRecDepth 100000 in
theorem zq_cst6 (s : zq_CS) (q : zq_CT) : zq_cst 6 s q = (match s with | some y => (if y.2.1 < q.2.1.toInt ∨ (q.2.1.toInt = y.2.1 ∧ q.1 < y.2.2) then some (q.2.2.1, q.2.1.toInt, q.1) else some y) | none => some (q.2.2.1, q.2.1.toInt, q.1)) := by unfold zq_cst; rw [if_neg (by decide), if_neg (by decide), if_neg (by decide), if_neg (by decide), if_neg (by decide), if_pos rfl]; cases s <;> rfl
set_option maxRecDepth 100000 in
theorem zq_cst7 (s : zq_CS) (q : zq_CT) : zq_cst 7 s q = (match q.2.2.2 with | none => s | some b => some (((match s with | some y => y.1 | none => ll 0) + (if q.2.2.1.toInt < b.toInt then q.2.2.1 else q.2.2.1 - b)), 0, 0)) := by unfold zq_cst; rw [if_neg (by decide), if_neg (by decide), if_neg (by decide), if_neg (by decide), if_neg (by decide), if_neg (by decide)]; obtain ⟨a, b, c, d⟩ := q; cases d <;> cases s <;> rfl
set_option maxRecDepth 100000 in
theorem zq_cst_comm {kd : Int} (hk : 1 ≤ kd ∧ kd ≤ 7) {x y : zq_CT} (h : x.2.1.toInt ≠ y.2.1.toInt ∨ x.1 ≠ y.1) (z : zq_CS) : zq_cst kd (zq_cst kd z x) y = zq_cst kd (zq_cst kd z y) x := by
  by_cases k1 : kd = 1
  · subst k1
    rw [zq_cst1 z, zq_cst1 z, zq_cst1, zq_cst1]; dsimp only; rw [zq_i64rc]
  by_cases k2 : kd = 2
  · subst k2; rw [zq_cst2 z, zq_cst2 z, zq_cst2, zq_cst2]
  by_cases k3 : kd = 3
  · subst k3
    rw [zq_cst3 z, zq_cst3 z, zq_cst3, zq_cst3]
    cases z with
    | none => dsimp only; rw [zq_mn_c2]
    | some w => dsimp only; rw [zq_mn_comm]
  by_cases k4 : kd = 4
  · subst k4
    rw [zq_cst4 z, zq_cst4 z, zq_cst4, zq_cst4]
    cases z with
    | none => dsimp only; rw [zq_mx_c2]
    | some w => dsimp only; rw [zq_mx_comm]
  by_cases k5 : kd = 5
  · subst k5
    cases z with
    | none =>
      rw [zq_cst5 none x, zq_cst5 none y]; dsimp only; rw [zq_cst5, zq_cst5]; dsimp only
      by_cases c1 : y.2.1.toInt < x.2.1.toInt ∨ (y.2.1.toInt = x.2.1.toInt ∧ y.1 < x.1)
      · rw [if_pos c1, if_neg (by omega)]
      · rw [if_neg c1, if_pos (by omega)]
    | some w =>
      rw [zq_cst5 (some w) x, zq_cst5 (some w) y]; dsimp only
      by_cases c1 : x.2.1.toInt < w.2.1 ∨ (x.2.1.toInt = w.2.1 ∧ x.1 < w.2.2) <;> by_cases c2 : y.2.1.toInt < w.2.1 ∨ (y.2.1.toInt = w.2.1 ∧ y.1 < w.2.2)
      · rw [if_pos c1, if_pos c2, zq_cst5, zq_cst5]; dsimp only
        by_cases c3 : y.2.1.toInt < x.2.1.toInt ∨ (y.2.1.toInt = x.2.1.toInt ∧ y.1 < x.1)
        · rw [if_pos c3, if_neg (by omega)]
        · rw [if_neg c3, if_pos (by omega)]
      · rw [if_pos c1, if_neg c2, zq_cst5, zq_cst5]; dsimp only
        rw [if_pos c1, if_neg (by omega)]
      · rw [if_neg c1, if_pos c2, zq_cst5, zq_cst5]; dsimp only
        rw [if_pos c2, if_neg (by omega)]
      · rw [if_neg c1, if_neg c2, zq_cst5, zq_cst5]; dsimp only
        rw [if_neg c1, if_neg c2]
  by_cases k6 : kd = 6
  · subst k6
    cases z with
    | none =>
      rw [zq_cst6 none x, zq_cst6 none y]; dsimp only; rw [zq_cst6, zq_cst6]; dsimp only
      by_cases c1 : x.2.1.toInt < y.2.1.toInt ∨ (y.2.1.toInt = x.2.1.toInt ∧ y.1 < x.1)
      · rw [if_pos c1, if_neg (by omega)]
      · rw [if_neg c1, if_pos (by omega)]
    | some w =>
      rw [zq_cst6 (some w) x, zq_cst6 (some w) y]; dsimp only
      by_cases c1 : w.2.1 < x.2.1.toInt ∨ (x.2.1.toInt = w.2.1 ∧ x.1 < w.2.2) <;> by_cases c2 : w.2.1 < y.2.1.toInt ∨ (y.2.1.toInt = w.2.1 ∧ y.1 < w.2.2)
      · rw [if_pos c1, if_pos c2, zq_cst6, zq_cst6]; dsimp only
        by_cases c3 : x.2.1.toInt < y.2.1.toInt ∨ (y.2.1.toInt = x.2.1.toInt ∧ y.1 < x.1)
        · rw [if_pos c3, if_neg (by omega)]
        · rw [if_neg c3, if_pos (by omega)]
      · rw [if_pos c1, if_neg c2, zq_cst6, zq_cst6]; dsimp only
        rw [if_pos c1, if_neg (by omega)]
      · rw [if_neg c1, if_pos c2, zq_cst6, zq_cst6]; dsimp only
        rw [if_pos c2, if_neg (by omega)]
      · rw [if_neg c1, if_neg c2, zq_cst6, zq_cst6]; dsimp only
        rw [if_neg c1, if_neg c2]
  have k7 : kd = 7 := by omega
  subst k7
  rw [zq_cst7 z x, zq_cst7 z y]
  cases hx : x.2.2.2 with
  | none =>
    dsimp only
    rw [zq_cst7, zq_cst7, hx]
  | some b =>
    dsimp only
    cases hy : y.2.2.2 with
    | none => dsimp only; rw [zq_cst7, zq_cst7, hx, hy]
    | some d =>
      dsimp only
      rw [zq_cst7, zq_cst7, hx, hy]
      dsimp only
      rw [zq_i64rc]
set_option maxRecDepth 100000 in
theorem zq_ser_perm (l : List zq_CT) : ∀ (N : Nat), (l.filter (fun x => decide (0 ≤ x.1 ∧ x.1 < (N : Int)))).Perm ((List.range N).flatMap (fun (s : Nat) => l.filter (fun x => x.1 == (s : Int))))
  | 0 => by
    have : l.filter (fun x => decide (0 ≤ x.1 ∧ x.1 < ((0 : Nat) : Int))) = [] := by
      rw [List.filter_eq_nil_iff]; intro x _; rw [decide_eq_true_iff]; omega
    rw [this]; exact List.Perm.refl _
  | N + 1 => by
    have ih := zq_ser_perm l N
    rw [List.range_succ, List.flatMap_append, List.flatMap_singleton]
    have p := List.filter_append_perm (fun x : zq_CT => decide (0 ≤ x.1 ∧ x.1 < (N : Int))) (l.filter (fun x => decide (0 ≤ x.1 ∧ x.1 < ((N + 1 : Nat) : Int))))
    rw [List.filter_filter, List.filter_filter] at p
    have e1 : l.filter (fun a => decide (0 ≤ a.1 ∧ a.1 < (N : Int)) && decide (0 ≤ a.1 ∧ a.1 < ((N + 1 : Nat) : Int))) = l.filter (fun x => decide (0 ≤ x.1 ∧ x.1 < (N : Int))) := by
      congr 1; funext a; rw [← Bool.decide_and]; congr 1; apply propext; omega
    have e2 : l.filter (fun a => !decide (0 ≤ a.1 ∧ a.1 < (N : Int)) && decide (0 ≤ a.1 ∧ a.1 < ((N + 1 : Nat) : Int))) = l.filter (fun x => x.1 == (N : Int)) := by
      congr 1; funext a; rw [← decide_not, ← Bool.decide_and]
      by_cases c : a.1 = (N : Int)
      · rw [decide_eq_true (by omega)]; simp [c]
      · rw [decide_eq_false (by omega)]; simp [c]
    rw [e1, e2] at p
    exact p.symm.trans (List.Perm.append_right _ ih)
set_option maxRecDepth 100000 in
/-- all points, series by series -/
def zq_PLs (f : Nat → List zq_P3) (N : Nat) : List zq_CT := (List.range N).flatMap (fun (s : Nat) => zq_annG (s : Int) none (f s))
set_option maxRecDepth 100000 in
theorem zq_PLs_succ (f : Nat → List zq_P3) (N : Nat) : zq_PLs f (N + 1) = zq_PLs f N ++ zq_annG (N : Int) none (f N) := by
  unfold zq_PLs; rw [List.range_succ, List.flatMap_append, List.flatMap_singleton]
set_option maxRecDepth 100000 in
theorem zq_PLs_perm {pts : List zq_P4} {N : Nat} (h : ∀ x ∈ zq_annF (fun _ => none) pts, 0 ≤ x.1 ∧ x.1 < (N : Int)) : (zq_annF (fun _ => none) pts).Perm (zq_PLs (fun s => zq_serP (s : Int) pts) N) := by
  have p := zq_ser_perm (zq_annF (fun _ => none) pts) N
  rw [List.filter_eq_self.mpr (fun x hx => by simpa using h x hx)] at p
  unfold zq_PLs
  have e : (fun s : Nat => (zq_annF (fun _ => none) pts).filter (fun x => x.1 == (s : Int))) = (fun (s : Nat) => zq_annG (s : Int) none (zq_serP (s : Int) pts)) := by
    funext s; exact zq_annF_ser s pts _
  rw [← e]; exact p
set_option maxRecDepth 100000 in
theorem zq_annF_s : ∀ (l : List zq_P4) (prev : Int → Option Int64), ∀ x ∈ zq_annF prev l, ∃ y ∈ l, x.1 = y.1
  | [], prev, x, h => by simp [zq_annF] at h
  | y :: r, prev, x, h => by
    rw [zq_annF] at h
    rcases List.mem_cons.mp h with z | z
    · exact ⟨y, by simp, by rw [z]⟩
    · obtain ⟨w, h1, h2⟩ := zq_annF_s r _ x z
      exact ⟨w, List.mem_cons_of_mem _ h1, h2⟩
set_option maxRecDepth 100000 in
theorem zq_fun_fold {pts : List zq_P4} {N : Nat} {kd : Int} (hk : 1 ≤ kd ∧ kd ≤ 7) (h : ∀ x ∈ pts, 0 ≤ x.1 ∧ x.1 < (N : Int)) (hinc : ∀ i : Nat, i < N → (zq_serP (i : Int) pts).Pairwise (fun a b => a.1.toInt < b.1.toInt)) (p : zq_CT → Bool) : ((zq_annF (fun _ => none) pts).filter p).foldl (zq_cst kd) none = ((zq_PLs (fun s => zq_serP (s : Int) pts) N).filter p).foldl (zq_cst kd) none := by
  have hr : ∀ x ∈ zq_annF (fun _ => none) pts, 0 ≤ x.1 ∧ x.1 < (N : Int) := by
    intro x hx
    obtain ⟨y, h1, h2⟩ := zq_annF_s pts _ x hx
    rw [h2]; exact h y h1
  refine List.Perm.foldl_eq' ((zq_PLs_perm hr).filter p) (fun x hx y hy z => ?_) none
  by_cases c : x = y
  · rw [c]
  · refine zq_cst_comm hk ?_ z
    by_cases c2 : x.1 = y.1
    · left
      have hx' := (List.mem_filter.mp hx).1
      have hy' := (List.mem_filter.mp hy).1
      have R := hr x hx'
      have mx : x ∈ zq_annG x.1 none (zq_serP x.1 pts) := by rw [← zq_annF_ser x.1 pts (fun _ => none)]; exact List.mem_filter.mpr ⟨hx', by simp⟩
      have my : y ∈ zq_annG x.1 none (zq_serP x.1 pts) := by rw [← zq_annF_ser x.1 pts (fun _ => none)]; exact List.mem_filter.mpr ⟨hy', by simp [c2]⟩
      have inc := zq_annG_inc x.1 (zq_serP x.1 pts) none (by
        have := hinc x.1.toNat (by omega)
        rw [show ((x.1.toNat : Nat) : Int) = x.1 by omega] at this
        exact this)
      obtain ⟨i, hi, ei⟩ := List.mem_iff_getElem.mp mx
      obtain ⟨j, hj, ej⟩ := List.mem_iff_getElem.mp my
      rw [List.pairwise_iff_getElem] at inc
      rcases Nat.lt_trichotomy i j with q | q | q
      · have := inc i j hi hj q; rw [ei, ej] at this; omega
      · subst q; exact absurd (ei.symm.trans ej) c
      · have := inc j i hj hi q; rw [ei, ej] at this; omega
    · right; exact c2
/-! a point comes to a cell of the program -/
set_option maxRecDepth 100000 in
def zq_gpm (S : WS) (v : Nat) (th : Int → Int) (nu : Int → Int64) (mo : Int → Int64) : WS := WS.w_ev_moments (zq_gpc S v th nu) mo
set_option maxRecDepth 100000 in
def zq_cpR (kd s : Int) (th : Int → Int) (nu mo : Int → Int64) (p : Int) (cs : zq_CS) : Prop := zq_gcl th nu p (cs.map (fun y => y.1)) ∧ ((kd = 5 ∨ kd = 6) → ∀ y, cs = some y → (mo p).toInt = y.2.1 ∧ y.2.2 ≤ s)
set_option maxRecDepth 100000 in
def zq_ptX (S : WS) (i : Nat) (j : Int) : zq_CT := ((i : Int), S.pt_times i j, S.pt_values i j, if j ≤ 0 then none else some (S.pt_values i (j - 1)))
set_option maxRecDepth 100000 in
theorem zq_ll_min (a b : Int64) : ll (min a.toInt b.toInt) = if a.toInt ≤ b.toInt then a else b := by
  by_cases h : a.toInt ≤ b.toInt
  · rw [if_pos h, Int.min_eq_left h, ll_of]
  · rw [if_neg h, Int.min_eq_right (by omega), ll_of]
set_option maxRecDepth 100000 in
theorem zq_ll_max (a b : Int64) : ll (max a.toInt b.toInt) = if b.toInt ≤ a.toInt then a else b := by
  by_cases h : b.toInt ≤ a.toInt
  · rw [if_pos h, Int.max_eq_left h, ll_of]
  · rw [if_neg h, Int.max_eq_right (by omega), ll_of]
set_option maxRecDepth 100000 in
def zq_bOf (cs : zq_CS) : Int64 := match cs with | some y => y.1 | none => ll 0
set_option maxRecDepth 100000 in
theorem zq_cst1b (s : zq_CS) (x : zq_CT) : zq_cst 1 s x = some (zq_bOf s + x.2.2.1, 0, 0) := by rw [zq_cst1]; cases s <;> rfl
set_option maxRecDepth 100000 in
theorem zq_cst2b (s : zq_CS) (x : zq_CT) : zq_cst 2 s x = some (zq_bOf s + ll 1, 0, 0) := by rw [zq_cst2]; cases s <;> rfl
set_option maxRecDepth 100000 in
theorem zq_cst3b (s : zq_CS) (x : zq_CT) : zq_cst 3 s x = some (if s = none then x.2.2.1 else if (zq_bOf s).toInt ≤ x.2.2.1.toInt then zq_bOf s else x.2.2.1, 0, 0) := by
  rw [zq_cst3]
  cases s with
  | none => rw [if_pos rfl]
  | some y => rw [if_neg (by simp)]; rfl
set_option maxRecDepth 100000 in
theorem zq_cst4b (s : zq_CS) (x : zq_CT) : zq_cst 4 s x = some (if s = none then x.2.2.1 else if x.2.2.1.toInt ≤ (zq_bOf s).toInt then zq_bOf s else x.2.2.1, 0, 0) := by
  rw [zq_cst4]
  cases s with
  | none => rw [if_pos rfl]
  | some y => rw [if_neg (by simp)]; rfl
set_option maxRecDepth 100000 in
theorem zq_cst7b (s : zq_CS) (x : zq_CT) (b : Int64) (h : x.2.2.2 = some b) : zq_cst 7 s x = some (zq_bOf s + (if x.2.2.1.toInt < b.toInt then x.2.2.1 else x.2.2.1 - b), 0, 0) := by rw [zq_cst7, h]; cases s <;> rfl
set_option maxRecDepth 100000 in
theorem zq_cst7n (s : zq_CS) (x : zq_CT) (h : x.2.2.2 = none) : zq_cst 7 s x = s := by rw [zq_cst7, h]
section
variable {c : CW} {S : WS} {v L W i : Nat}
set_option maxRecDepth 100000 in
theorem zq_e_valueAt (h : zq_ptI c S i) {j : Int} (h0 : 0 ≤ j) (h1 : j < S.pt_size i) : s_Pt_valueAt c S i j = some (S.pt_values i j, S) := by
  have := h.1
  rw [s_Pt_valueAt, zq_w32i (z := j) (by omega) (by omega), if_neg (by omega), zq_w32i (z := S.pt_size i) (by omega) (by omega), if_neg (by omega), if_pos (by omega)]
set_option maxRecDepth 100000 in
theorem zq_m_put (h : zq_gok c S v L W) {p : Int} (hp : 0 ≤ p ∧ p < ((L * W : Nat) : Int)) (th : Int → Int) (nu mo : Int → Int64) (x : Int64) : s_Gd_put c (zq_gpm S v th nu mo) v p x = some ((), zq_gpm S v (aU th p 1) (aU nu p x) mo) := by
  have h' : zq_gok c (WS.w_ev_moments S mo) v L W := h
  exact zq_g_put h' hp th nu x
set_option maxRecDepth 100000 in
theorem zq_E_addMoment (h : zq_gok c S v L W) {kd : Int} (hk : kd = 5 ∨ kd = 6) {p : Int} (hp : 0 ≤ p ∧ p < ((L * W : Nat) : Int)) (hmo : ((L * W : Nat) : Int) ≤ c.mo ∧ c.mo ≤ 16384) {s : Int} {th : Int → Int} {nu mo : Int → Int64} {cs : zq_CS} (hc : zq_cpR kd s th nu mo p cs) (t x : Int64) (pv : Option Int64) : ∃ th' nu' mo', s_Ev_addMoment c (zq_gpm S v th nu mo) kd v p t x = some ((), zq_gpm S v th' nu' mo') ∧ zq_cpR kd s th' nu' mo' p (zq_cst kd cs (s, t, x, pv)) ∧ ∀ q, q ≠ p → th' q = th q ∧ nu' q = nu q ∧ mo' q = mo q := by
  have hm : (zq_gpm S v th nu mo).ev_moments = mo := rfl
  have h' : zq_gok c (zq_gpm S v th nu mo) v L W := h
  have hc' : zq_gcl ((zq_gpm S v th nu mo).gd_there v) ((zq_gpm S v th nu mo).gd_numbers v) p (cs.map (fun y => y.1)) := by
    show zq_gcl ((zq_gpc S v th nu).gd_there v) ((zq_gpc S v th nu).gd_numbers v) p _
    rw [zq_gpc_th, zq_gpc_nu]; exact hc.1
  have set71 : q_Ev_addMoment_71 c v p t x (zq_gpm S v th nu mo) = some ((), zq_gpm S v (aU th p 1) (aU nu p x) (aU mo p t)) := by
    rw [q_Ev_addMoment_71, zq_mb2_eq (zq_m_put h hp th nu mo x), if_pos (by omega)]; rfl
  have good : ∀ y : Int64 × Int × Int, y = (x, t.toInt, s) → zq_cpR kd s (aU th p 1) (aU nu p x) (aU mo p t) p (some y) := by
    intro y hy; subst hy
    refine ⟨zq_gcl_at _ _ _ _, fun _ y hy => ?_⟩
    cases hy
    rw [zq_aU_at]; exact ⟨rfl, Int.le_refl _⟩
  have oth : ∀ q, q ≠ p → aU th p 1 q = th q ∧ aU nu p x q = nu q ∧ aU mo p t q = mo q := fun q hq => ⟨zq_aU_ne _ _ _ _ hq, zq_aU_ne _ _ _ _ hq, zq_aU_ne _ _ _ _ hq⟩
  have hh := hc.2 hk
  -- both kinds: whether it is nearer
  have step : ∀ t0 : Int, (t0 = 0 ∨ t0 = 1) → (∀ y, cs = some y → (t0 = 1 → zq_cst kd (some y) (s, t, x, pv) = some (x, t.toInt, s)) ∧ (t0 = 0 → zq_cst kd (some y) (s, t, x, pv) = some y)) → ∃ th' nu' mo', q_Ev_addMoment_56 c v p t x t0 (zq_gpm S v th nu mo) = some ((), zq_gpm S v th' nu' mo') ∧ zq_cpR kd s th' nu' mo' p (zq_cst kd cs (s, t, x, pv)) ∧ ∀ q, q ≠ p → th' q = th q ∧ nu' q = nu q ∧ mo' q = mo q := by
    intro t0 ht0 hcs
    cases cs with
    | none =>
      have en : zq_cst kd none (s, t, x, pv) = some (x, t.toInt, s) := by
        rcases hk with rfl | rfl
        · rw [zq_cst5]
        · rw [zq_cst6]
      rw [en]
      refine ⟨_, _, _, ?_, good _ rfl, oth⟩
      rw [q_Ev_addMoment_56, zq_mb2_eq (zq_g_has0 h' hp hc')]
      rcases ht0 with rfl | rfl
      · rw [if_pos (by decide), if_pos (by decide)]; exact set71
      · rw [if_neg (by decide)]; exact set71
    | some y =>
      have q := hcs y rfl
      rw [q_Ev_addMoment_56, zq_mb2_eq (zq_g_has1 h' hp hc')]
      rcases ht0 with rfl | rfl
      · rw [if_pos (by decide), if_neg (by decide), q.2 rfl]
        exact ⟨th, nu, mo, rfl, hc, fun _ _ => ⟨rfl, rfl, rfl⟩⟩
      · rw [if_neg (by decide), q.1 rfl]
        exact ⟨_, _, _, set71, good _ rfl, oth⟩
  rw [s_Ev_addMoment, zq_w32i (z := p) (by omega) (by omega), if_neg (by omega), zq_w32i (z := c.mo) (by omega) (by omega), if_pos (by omega), zq_w32i (z := kd) (by omega) (by omega), hm]
  rcases hk with rfl | rfl
  · rw [if_pos rfl, if_pos (by omega)]
    by_cases c1 : (mo p).toInt ≤ t.toInt
    · rw [if_pos c1]
      refine step 0 (Or.inl rfl) (fun y hy => ?_)
      have := hh y hy
      rw [zq_cst5]; dsimp only
      rw [if_neg (by omega)]
      exact ⟨fun z => by omega, fun _ => rfl⟩
    · rw [if_neg c1]
      refine step 1 (Or.inr rfl) (fun y hy => ?_)
      have := hh y hy
      rw [zq_cst5]; dsimp only
      rw [if_pos (by omega)]
      exact ⟨fun z => rfl, fun z => by omega⟩
  · rw [if_neg (by decide), if_pos (by omega)]
    by_cases c1 : t.toInt ≤ (mo p).toInt
    · rw [if_pos c1]
      refine step 0 (Or.inl rfl) (fun y hy => ?_)
      have := hh y hy
      rw [zq_cst6]; dsimp only
      rw [if_neg (by omega)]
      exact ⟨fun z => by omega, fun _ => rfl⟩
    · rw [if_neg c1]
      refine step 1 (Or.inr rfl) (fun y hy => ?_)
      have := hh y hy
      rw [zq_cst6]; dsimp only
      rw [if_pos (by omega)]
      exact ⟨fun z => rfl, fun z => by omega⟩
set_option maxRecDepth 100000 in
theorem zq_w_addPoint (h : zq_gok c S v L W) {kd : Int} (hk : 1 ≤ kd ∧ kd ≤ 7) {p : Int} (hp : 0 ≤ p ∧ p < ((L * W : Nat) : Int)) (hmo : (kd = 5 ∨ kd = 6) → ((L * W : Nat) : Int) ≤ c.mo ∧ c.mo ≤ 16384) (hpt : zq_ptI c S i) {j : Int} (hj : 0 ≤ j ∧ j < S.pt_size i) {th : Int → Int} {nu mo : Int → Int64} {cs : zq_CS} (hc : zq_cpR kd i th nu mo p cs) : ∃ th' nu' mo', s_Ev_addPoint c (zq_gpm S v th nu mo) kd v p i j = some ((), zq_gpm S v th' nu' mo') ∧ zq_cpR kd i th' nu' mo' p (zq_cst kd cs (zq_ptX S i j)) ∧ ∀ q, q ≠ p → th' q = th q ∧ nu' q = nu q ∧ mo' q = mo q := by
  have h' : zq_gok c (zq_gpm S v th nu mo) v L W := h
  have hpt' : zq_ptI c (zq_gpm S v th nu mo) i := hpt
  have hsz := hpt.1
  have hc' : zq_gcl ((zq_gpm S v th nu mo).gd_there v) ((zq_gpm S v th nu mo).gd_numbers v) p (cs.map (fun y => y.1)) := by
    show zq_gcl ((zq_gpc S v th nu).gd_there v) ((zq_gpc S v th nu).gd_numbers v) p _
    rw [zq_gpc_th, zq_gpc_nu]; exact hc.1
  have e1 : s_Pt_valueAt c (zq_gpm S v th nu mo) i j = some (S.pt_values i j, zq_gpm S v th nu mo) := zq_e_valueAt hpt' hj.1 hj.2
  have e2 : s_Gd_numberAt c (zq_gpm S v th nu mo) v p = some ((zq_bOf cs), zq_gpm S v th nu mo) := by
    rw [zq_g_num h' hp hc']; cases cs <;> rfl
  have e3 : s_Gd_has c (zq_gpm S v th nu mo) v p = some (if cs = none then 0 else 1, zq_gpm S v th nu mo) := by
    cases cs with
    | none => rw [zq_g_has0 h' hp hc']; rfl
    | some y => rw [zq_g_has1 h' hp hc']; rfl
  have ea : s_Ev_addPoint c (zq_gpm S v th nu mo) kd v p i j = q_Ev_addPoint_29 c kd v p i j (S.pt_values i j) (zq_bOf cs) (if cs = none then 1 else 0) (zq_gpm S v th nu mo) := by
    rw [s_Ev_addPoint, zq_mb2_eq e1, zq_mb2_eq e2, zq_mb2_eq e3]
    by_cases z : cs = none
    · rw [if_pos z, if_pos z, if_pos (by decide)]
    · rw [if_neg z, if_neg z, if_neg (by decide)]
  have put : ∀ (x : Int64) (cs' : zq_CS), cs' = some (x, 0, 0) → kd ≠ 5 → kd ≠ 6 → zq_cst kd cs (zq_ptX S i j) = cs' → (∃ K, q_Ev_addPoint_29 c kd v p i j (S.pt_values i j) (zq_bOf cs) (if cs = none then 1 else 0) (zq_gpm S v th nu mo) = mb2 (s_Gd_put c (zq_gpm S v th nu mo) v p x) K ∧ ∀ S', K () S' = some ((), S')) → ∃ th' nu' mo', s_Ev_addPoint c (zq_gpm S v th nu mo) kd v p i j = some ((), zq_gpm S v th' nu' mo') ∧ zq_cpR kd i th' nu' mo' p (zq_cst kd cs (zq_ptX S i j)) ∧ ∀ q, q ≠ p → th' q = th q ∧ nu' q = nu q ∧ mo' q = mo q := by
    rintro x cs' hcs' n5 n6 hst ⟨K, k1, k2⟩
    refine ⟨aU th p 1, aU nu p x, mo, ?_, ?_, fun q hq => ⟨zq_aU_ne _ _ _ _ hq, zq_aU_ne _ _ _ _ hq, rfl⟩⟩
    · rw [ea, k1, zq_mb2_eq (zq_m_put h hp th nu mo x)]; exact k2 _
    · rw [hst, hcs']
      exact ⟨zq_gcl_at _ _ _ _, fun z => by omega⟩
  have ek : w32 kd = kd := zq_w32i (by omega) (by omega)
  by_cases k1 : kd = 1
  · subst k1
    exact put _ _ rfl (by decide) (by decide) (zq_cst1b _ _) ⟨fun r49 S49 => some ((), S49), by rw [q_Ev_addPoint_29, ek, if_pos rfl]; rfl, fun _ => rfl⟩
  by_cases k2 : kd = 2
  · subst k2
    exact put _ _ rfl (by decide) (by decide) (zq_cst2b _ _) ⟨fun r49 S49 => some ((), S49), by rw [q_Ev_addPoint_29, ek, if_neg (by decide), if_pos rfl], fun _ => rfl⟩
  by_cases k3 : kd = 3
  · subst k3
    refine put _ _ rfl (by decide) (by decide) (zq_cst3b _ _) ⟨fun r49 S49 => some ((), S49), ?_, fun _ => rfl⟩
    rw [q_Ev_addPoint_29, ek, if_neg (by decide), if_neg (by decide), if_pos rfl, q_Ev_addPoint_120, q_Ev_addPoint_120, zq_ll_min]
    by_cases z : cs = none
    · rw [if_pos z, if_pos z, if_neg (by decide)]; rfl
    · rw [if_neg z, if_neg z, if_pos (by decide)]; rfl
  by_cases k4 : kd = 4
  · subst k4
    refine put _ _ rfl (by decide) (by decide) (zq_cst4b _ _) ⟨fun r49 S49 => some ((), S49), ?_, fun _ => rfl⟩
    rw [q_Ev_addPoint_29, ek, if_neg (by decide), if_neg (by decide), if_neg (by decide), if_pos rfl, q_Ev_addPoint_145, q_Ev_addPoint_145, zq_ll_max]
    by_cases z : cs = none
    · rw [if_pos z, if_pos z, if_neg (by decide)]; rfl
    · rw [if_neg z, if_neg z, if_pos (by decide)]; rfl
  have et : s_Pt_timeAt c (zq_gpm S v th nu mo) i j = some (S.pt_times i j, zq_gpm S v th nu mo) := zq_e_timeAt hpt' hj.1 hj.2
  by_cases k7 : kd = 7
  · subst k7
    by_cases c1 : j ≤ 0
    · have e0 : (zq_ptX S i j).2.2.2 = none := if_pos c1
      rw [zq_cst7n _ _ e0, ea, q_Ev_addPoint_29, ek, if_neg (by decide), if_neg (by decide), if_neg (by decide), if_neg (by decide), if_neg (by decide), if_neg (by decide), if_pos rfl, zq_w32i (z := j) (by omega) (by omega), if_pos c1]
      exact ⟨th, nu, mo, rfl, hc, fun _ _ => ⟨rfl, rfl, rfl⟩⟩
    · have e0 : (zq_ptX S i j).2.2.2 = some (S.pt_values i (j - 1)) := if_neg c1
      have ec := zq_cst7b cs (zq_ptX S i j) _ e0
      have e4 : s_Pt_valueAt c (zq_gpm S v th nu mo) i (j - 1) = some (S.pt_values i (j - 1), zq_gpm S v th nu mo) := zq_e_valueAt hpt' (by omega) (by have : (zq_gpm S v th nu mo).pt_size i = S.pt_size i := rfl; omega)
      have e5 : s_Ev_grownBy (S.pt_values i (j - 1)) (S.pt_values i j) = some (if (S.pt_values i j).toInt < (S.pt_values i (j - 1)).toInt then S.pt_values i j else S.pt_values i j - S.pt_values i (j - 1)) := by
        rw [s_Ev_grownBy]; split <;> rfl
      refine put _ _ rfl (by decide) (by decide) ec ⟨fun r46 S46 => some ((), S46), ?_, fun _ => rfl⟩
      rw [q_Ev_addPoint_29, ek, if_neg (by decide), if_neg (by decide), if_neg (by decide), if_neg (by decide), if_neg (by decide), if_neg (by decide), if_pos rfl, zq_w32i (z := j) (by omega) (by omega), if_neg c1, zq_mb2_eq e4, zq_mb1_eq e5]; rfl
  have k56 : kd = 5 ∨ kd = 6 := by omega
  obtain ⟨th', nu', mo', a1, a2, a3⟩ := zq_E_addMoment h k56 hp (hmo k56) hc (S.pt_times i j) (S.pt_values i j) (if j ≤ 0 then none else some (S.pt_values i (j - 1)))
  refine ⟨th', nu', mo', ?_, a2, a3⟩
  rw [ea, q_Ev_addPoint_29, ek, if_neg k1, if_neg k2, if_neg k3, if_neg k4, zq_mb2_eq et, zq_mb2_eq a1]
  rcases k56 with rfl | rfl
  · rw [if_pos rfl]
  · rw [if_neg (by decide), if_pos rfl]
end
/-! the points of a series come to the program's cells -/
section
variable {T : Int → Int} {lb : Nat → zq_LB} {fr wd : Int64} {c : CW} {S : WS} {v W i : Nat} {ns : List zq_NM} {ms : List zq_MT} {Kl : List zq_Key} {kd : Int}
set_option maxRecDepth 100000 in
def zq_IV (T : Int → Int) (lb : Nat → zq_LB) (fr wd : Int64) (W : Nat) (ns : List zq_NM) (ms : List zq_MT) (Kl : List zq_Key) (kd s : Int) (th : Int → Int) (nu mo : Int → Int64) (PL : List zq_CT) : Prop := ∀ (r : Nat) (k : zq_Key) (w : Nat), Kl[r]? = some k → w < W → zq_cpR kd s th nu mo ((r : Int) * W + w) ((PL.filter (zq_fits T lb fr wd W ns ms k w)).foldl (zq_cst kd) none)
set_option maxRecDepth 100000 in
theorem zq_IV_skip {s : Int} {th : Int → Int} {nu mo : Int → Int64} {PL l : List zq_CT} (h : zq_IV T lb fr wd W ns ms Kl kd s th nu mo PL) (hl : ∀ x ∈ l, ∀ k w, k ∈ Kl → w < W → zq_fits T lb fr wd W ns ms k w x = false) : zq_IV T lb fr wd W ns ms Kl kd s th nu mo (PL ++ l) := by
  intro r k w hk hw
  have : l.filter (zq_fits T lb fr wd W ns ms k w) = [] := by
    rw [List.filter_eq_nil_iff]; intro x hx; rw [hl x hx k w (List.mem_of_getElem? hk) hw]; simp
  rw [List.filter_append, this, List.append_nil]
  exact h r k w hk hw
set_option maxRecDepth 100000 in
theorem zq_IV_mono {s s' : Int} {th : Int → Int} {nu mo : Int → Int64} {PL : List zq_CT} (h : zq_IV T lb fr wd W ns ms Kl kd s th nu mo PL) (hs : s ≤ s') : zq_IV T lb fr wd W ns ms Kl kd s' th nu mo PL := fun r k w hk hw => ⟨(h r k w hk hw).1, fun z y hy => ⟨((h r k w hk hw).2 z y hy).1, by have := ((h r k w hk hw).2 z y hy).2; omega⟩⟩
set_option maxRecDepth 100000 in
theorem zq_annG_gsl (S : WS) (i : Nat) : ∀ (m : Nat) (a : Int), 0 ≤ a → zq_annG (i : Int) (if a ≤ 0 then none else some (S.pt_values i (a - 1))) (zq_gsl (zq_cp3 S i) m a) = zq_gsl (zq_ptX S i) m a
  | 0, a, _ => rfl
  | m + 1, a, h => by
    have ih := zq_annG_gsl S i m (a + 1) (by omega)
    rw [if_neg (by omega), show a + 1 - 1 = a by omega] at ih
    rw [zq_gsl, zq_annG, zq_gsl]
    show _ :: zq_annG (i : Int) (some (S.pt_values i a)) (zq_gsl (zq_cp3 S i) m (a + 1)) = _
    rw [ih]; rfl
set_option maxRecDepth 100000 in
theorem zq_annG_cpts (S : WS) (i : Nat) : zq_annG (i : Int) none (zq_cpts S i) = zq_gsl (zq_ptX S i) (S.pt_size i).toNat 0 := zq_annG_gsl S i _ 0 (by omega)
set_option maxRecDepth 100000 in
theorem zq_winO_lt {t : Int64} (h : t.toInt < fr.toInt) : zq_winO fr wd W t = none := if_pos h
set_option maxRecDepth 100000 in
theorem zq_winO_ge {t : Int64} (h : fr.toInt ≤ t.toInt) (h2 : (W : Int) ≤ (t.toInt - fr.toInt) / wd.toInt) : zq_winO fr wd W t = none := by
  unfold zq_winO; rw [if_neg (by omega), if_neg (by omega)]
set_option maxRecDepth 100000 in
theorem zq_winO_in {t : Int64} (h : fr.toInt ≤ t.toInt) (h2 : (t.toInt - fr.toInt) / wd.toInt < (W : Int)) : zq_winO fr wd W t = some ((t.toInt - fr.toInt) / wd.toInt).toNat := by
  unfold zq_winO; rw [if_neg (by omega), if_pos h2]
set_option maxRecDepth 100000 in
theorem zq_fits_no {x : zq_CT} (h : zq_winO fr wd W x.2.1 = none) (k : zq_Key) (w : Nat) : zq_fits T lb fr wd W ns ms k w x = false := by
  unfold zq_fits; rw [h]; simp
set_option maxRecDepth 100000 in
theorem zq_win_cases {t : Int64} (t1 : 0 ≤ t.toInt ∧ t.toInt ≤ 1099511627775) (hfr : 0 ≤ fr.toInt ∧ fr.toInt ≤ 1099511627775) (hwd : 1 ≤ wd.toInt) (h : fr.toInt ≤ t.toInt) (W : Nat) : (∃ w0 : Nat, w0 < W ∧ ((t - fr) / wd).toInt = w0 ∧ zq_winO fr wd W t = some w0) ∨ ((W : Int) ≤ ((t - fr) / wd).toInt ∧ ∀ t' : Int64, t.toInt ≤ t'.toInt → zq_winO fr wd W t' = none) := by
  have q := zq_sub_toInt (a := t) (b := fr) t1 hfr
  have ed : ((t - fr) / wd).toInt = (t.toInt - fr.toInt) / wd.toInt := by rw [zq_div_toInt (by rw [q]; omega) hwd, q]
  have hd0 : 0 ≤ (t.toInt - fr.toInt) / wd.toInt := Int.ediv_nonneg (by omega) (by omega)
  rw [ed]
  rcases Int.lt_or_le ((t.toInt - fr.toInt) / wd.toInt) (W : Int) with c1 | c1
  · left
    have hwin := zq_winO_in (W := W) h c1
    obtain ⟨w0, hw0⟩ := Int.eq_ofNat_of_zero_le hd0
    rw [hw0] at c1 hwin ⊢
    exact ⟨w0, Int.ofNat_lt.mp c1, rfl, hwin⟩
  · right
    refine ⟨c1, fun t' h' => zq_winO_ge (Int.le_trans h h') (Int.le_trans c1 (Int.ediv_le_ediv (by clear c1 hd0 ed; omega) (by clear c1 hd0 ed; omega)))⟩
set_option maxRecDepth 100000 in
theorem zq_E_ap21 (h : zq_gok c S v Kl.length W) (hw : S.ev_windows = W) (hfr : S.ev_from = fr ∧ 0 ≤ fr.toInt ∧ fr.toInt ≤ 1099511627775) (hwd : S.ev_width = wd ∧ 1 ≤ wd.toInt ∧ wd.toInt ≤ 1099511627775) (hk : 1 ≤ kd ∧ kd ≤ 7) (hmo : (kd = 5 ∨ kd = 6) → ((Kl.length * W : Nat) : Int) ≤ c.mo ∧ c.mo ≤ 16384) (hpt : zq_ptI c S i) (htm : ∀ j, 0 ≤ j → j < S.pt_size i → 0 ≤ (S.pt_times i j).toInt ∧ (S.pt_times i j).toInt ≤ 1099511627775) (hnd : Kl.Nodup) {r0 : Nat} (hr0 : Kl[r0]? = some (zq_keyOf T lb ns i)) (hm : zq_mAll T lb ms i = true) {PL : List zq_CT} : ∀ (m f j : Nat) (th : Int → Int) (nu mo : Int → Int64), (j : Int) + m = S.pt_size i → m < f → (∀ q : Int, j ≤ q → q < S.pt_size i → fr.toInt ≤ (S.pt_times i q).toInt) → zq_IV T lb fr wd W ns ms Kl kd i th nu mo (PL ++ zq_gsl (zq_ptX S i) j 0) → ∃ th' nu' mo', q_Ev_addPoints_21 c f kd v r0 i j (zq_gpm S v th nu mo) = some ((), zq_gpm S v th' nu' mo') ∧ zq_IV T lb fr wd W ns ms Kl kd i th' nu' mo' (PL ++ zq_gsl (zq_ptX S i) (S.pt_size i).toNat 0)
  | m, 0, j, th, nu, mo => by omega
  | m, f + 1, j, th, nu, mo => by
    intro hjm hf hge hI
    have hsz := hpt.1
    have hW := h.2.1
    have hpt' : zq_ptI c (zq_gpm S v th nu mo) i := hpt
    have es : s_Pt_size c (zq_gpm S v th nu mo) i = some (S.pt_size i, zq_gpm S v th nu mo) := rfl
    rw [q_Ev_addPoints_21, zq_mb2_eq es, zq_w32i (z := S.pt_size i) (by omega) (by omega), zq_w32i (z := (j : Int)) (by omega) (by omega)]
    cases m with
    | zero =>
      rw [if_pos (by omega)]
      refine ⟨th, nu, mo, rfl, ?_⟩
      rw [show (S.pt_size i).toNat = j by omega]; exact hI
    | succ m =>
      have et : s_Pt_timeAt c (zq_gpm S v th nu mo) i j = some (S.pt_times i j, zq_gpm S v th nu mo) := zq_e_timeAt hpt' (by omega) (by have : (zq_gpm S v th nu mo).pt_size i = S.pt_size i := rfl; omega)
      have t1 := htm j (by omega) (by omega)
      have t2 := hge j (by omega) (by omega)
      have e1 : (zq_gpm S v th nu mo).ev_width = wd := hwd.1
      have e2 : (zq_gpm S v th nu mo).ev_from = fr := hfr.1
      have e3 : (zq_gpm S v th nu mo).ev_windows = W := hw
      have ne0 : ¬ wd = 0 := fun z => by have := hwd.2.1; rw [z] at this; exact absurd this (by decide)
      have eW : (ll (w32 (W : Int))).toInt = W := by rw [zq_w32i (z := (W : Int)) (by omega) (by omega), ll_toInt ⟨by omega, by omega⟩]
      rw [if_neg (by omega), zq_mb2_eq et, e1, e2, e3, if_pos ne0, eW]
      rcases zq_win_cases t1 hfr.2 hwd.2.1 t2 W with ⟨w0, hw0W, hd, hwin⟩ | ⟨c1, hno⟩
      · rw [hd, if_pos (Int.ofNat_lt.mpr hw0W)]
        clear hd eW
        have hrl : r0 < Kl.length := (List.getElem?_eq_some_iff.mp hr0).1
        have h' : zq_gok c (zq_gpm S v th nu mo) v Kl.length W := h
        have hp := zq_ix_in (W := W) hrl hw0W
        obtain ⟨th1, nu1, mo1, a1, a2, a3⟩ := zq_w_addPoint h hk hp hmo hpt (j := (j : Int)) (by omega) (hI r0 _ w0 hr0 hw0W)
        rw [zq_mb2_eq (zq_g_place h' hrl), zq_mb2_eq a1]
        obtain ⟨th', nu', mo', b1, b2⟩ := zq_E_ap21 h hw hfr hwd hk hmo hpt htm hnd hr0 hm (PL := PL) m f (j + 1) th1 nu1 mo1 (by omega) (by omega) (fun q q1 q2 => hge q (by omega) q2) (by
          rw [zq_gsl_snoc, ← List.append_assoc]
          intro r k w hk' hw'
          rw [List.filter_append]
          have e0 : (0 : Int) + (j : Int) = j := by omega
          by_cases c2 : r = r0 ∧ w = w0
          · obtain ⟨rfl, rfl⟩ := c2
            rw [hr0] at hk'; cases hk'
            have hf1 : zq_fits T lb fr wd W ns ms (zq_keyOf T lb ns i) w (zq_ptX S i (0 + (j : Int))) = true := by
              unfold zq_fits
              rw [e0, show (zq_ptX S i j).1 = (i : Int) from rfl, show (zq_ptX S i j).2.1 = S.pt_times i j from rfl, hm, hwin]; simp
            rw [List.filter_cons_of_pos hf1, List.filter_nil, List.foldl_append, e0, List.foldl_cons, List.foldl_nil]
            exact a2
          · have hf0 : zq_fits T lb fr wd W ns ms k w (zq_ptX S i (0 + (j : Int))) = false := by
              unfold zq_fits
              rw [e0, show (zq_ptX S i j).1 = (i : Int) from rfl, show (zq_ptX S i j).2.1 = S.pt_times i j from rfl, hwin]
              by_cases c3 : w = w0
              · have hr : r ≠ r0 := fun z => c2 ⟨z, c3⟩
                have : zq_keyOf T lb ns i ≠ k := by
                  intro z
                  obtain ⟨l1, x1⟩ := List.getElem?_eq_some_iff.mp hk'
                  obtain ⟨l2, x2⟩ := List.getElem?_eq_some_iff.mp hr0
                  exact hr ((List.getElem_inj (h₀ := l1) (h₁ := l2) hnd).mp (by rw [x1, x2, z]))
                simp [this]
              · have : ¬ w0 = w := fun z => c3 z.symm
                simp [this]
            rw [List.filter_cons_of_neg (by rw [hf0]; simp), List.filter_nil, List.append_nil]
            have q := a3 ((r : Int) * W + w) (zq_ix_ne (W := W) (by omega) (by omega) (by omega))
            have old := hI r k w hk' hw'
            exact ⟨zq_gcl_ex old.1 q.1 q.2.1, fun z y hy => by rw [q.2.2]; exact old.2 z y hy⟩)
        rw [show ((j + 1 : Nat) : Int) = (j : Int) + 1 by omega] at b1
        exact ⟨th', nu', mo', b1, b2⟩
      · rw [if_neg (Int.not_lt.mpr c1)]
        clear c1 eW
        refine ⟨th, nu, mo, rfl, ?_⟩
        rw [show (S.pt_size i).toNat = j + (m + 1) by omega, zq_gsl_app, ← List.append_assoc]
        refine zq_IV_skip hI (fun x hx k w _ _ => zq_fits_no ?_ k w)
        obtain ⟨q, q1, q2, rfl⟩ := zq_gsl_mem hx
        refine hno (S.pt_times i q) ?_
        by_cases z : q = j
        · rw [z]; exact Int.le_refl _
        · have := hpt.2.1 j q (by omega) (by omega) (by omega); omega
set_option maxRecDepth 100000 in
theorem zq_w_addPoints (h : zq_gok c S v Kl.length W) (hw : S.ev_windows = W) (hfr : S.ev_from = fr ∧ 0 ≤ fr.toInt ∧ fr.toInt ≤ 1099511627775) (hwd : S.ev_width = wd ∧ 1 ≤ wd.toInt ∧ wd.toInt ≤ 1099511627775) (hk : 1 ≤ kd ∧ kd ≤ 7) (hmo : (kd = 5 ∨ kd = 6) → ((Kl.length * W : Nat) : Int) ≤ c.mo ∧ c.mo ≤ 16384) (hpt : zq_ptI c S i) (htm : ∀ j, 0 ≤ j → j < S.pt_size i → 0 ≤ (S.pt_times i j).toInt ∧ (S.pt_times i j).toInt ≤ 1099511627775) (hnd : Kl.Nodup) {r0 : Nat} (hr0 : Kl[r0]? = some (zq_keyOf T lb ns i)) (hm : zq_mAll T lb ms i = true) {PL : List zq_CT} {th : Int → Int} {nu mo : Int → Int64} (hI : zq_IV T lb fr wd W ns ms Kl kd i th nu mo PL) : ∃ th' nu' mo', s_Ev_addPoints c (zq_gpm S v th nu mo) kd v r0 i = some ((), zq_gpm S v th' nu' mo') ∧ zq_IV T lb fr wd W ns ms Kl kd i th' nu' mo' (PL ++ zq_annG (i : Int) none (zq_cpts S i)) := by
  have hpt' : zq_ptI c (zq_gpm S v th nu mo) i := hpt
  obtain ⟨r, r1, r2, r3, r4, r5⟩ := zq_e_firstFrom hpt' fr
  have hsz := hpt.1
  have r3' : r ≤ S.pt_size i := r3
  have r4' : ∀ j, 0 ≤ j → j < r → (S.pt_times i j).toInt < fr.toInt := r4
  have r5' : ∀ j, r ≤ j → j < S.pt_size i → fr.toInt ≤ (S.pt_times i j).toInt := r5
  obtain ⟨j, hj⟩ : ∃ j : Nat, r = j := ⟨r.toNat, by omega⟩
  subst hj
  obtain ⟨th', nu', mo', b1, b2⟩ := zq_E_ap21 h hw hfr hwd hk hmo hpt htm hnd hr0 hm (PL := PL) (S.pt_size i - j).toNat fU j th nu mo (by omega) (zq_fU_gt (by omega)) (fun q q1 q2 => r5' q q1 q2) (by
    refine zq_IV_skip hI (fun x hx k w _ _ => zq_fits_no ?_ k w)
    obtain ⟨q, q1, q2, rfl⟩ := zq_gsl_mem hx
    exact zq_winO_lt (r4' q (by omega) (by omega)))
  refine ⟨th', nu', mo', ?_, by rw [zq_annG_cpts]; exact b2⟩
  have e1 : (zq_gpm S v th nu mo).ev_width = wd := hwd.1
  have e2 : (zq_gpm S v th nu mo).ev_from = fr := hfr.1
  rw [s_Ev_addPoints, e1, if_pos hwd.2.1, e2, zq_mb2_eq r1]; exact b1
end
/-! a match in the program -/
set_option maxRecDepth 100000 in
def zq_okM (n : Int) (m : zq_MT) : Prop := (0 ≤ m.1.1 ∧ 0 ≤ m.1.2 ∧ m.1.1 + m.1.2 ≤ n) ∧ zq_isMS m.2.1 = true ∧ (0 ≤ m.2.2.1 ∧ 0 ≤ m.2.2.2 ∧ m.2.2.1 + m.2.2.2 ≤ n)
section
variable {k0 : Nat} {T : Int → Int} {n : Int} {lb : Nat → zq_LB} {c : CW} {S : WS} {M : MS} {L : List Int}
set_option maxRecDepth 100000 in
theorem zq_E_vb15 (h : zq_RLb c S M lb) (ht : zq_tpI c S) (hT : zq_bt S = T) {i : Nat} (hi : i < c.N) {kk : Int} {v : List Int} (hv : zq_lbK (lb i) kk v) {a : Int} {len : Nat} (ha : 0 ≤ a ∧ a + len ≤ 100000) (hl : len ≤ v.length) : ∀ (f j : Nat), j ≤ len → len - j < f → q_Se_valueBegins_15 c f i kk a len j S = some (zq_b01 (zq_slF T (len - j) (a + j) = (v.drop j).take (len - j)), S)
  | 0, j => by omega
  | f + 1, j => by
    intro h1 hf
    have lv := zq_lbK_len h hi hv
    rw [q_Se_valueBegins_15, zq_w32i (z := (len : Int)) (by omega) (by omega), zq_w32i (z := (j : Int)) (by omega) (by omega)]
    by_cases c1 : len ≤ j
    · rw [if_pos (by omega), show len - j = 0 by omega, zq_b01_t (by simp [zq_slF])]
    · have hjv : j < v.length := by omega
      have hy : v[j]? = some (v[j]'hjv) := List.getElem?_eq_getElem _
      have hw := (zq_wdB_iff _).mp (lv.2.1 _ (List.mem_of_getElem? hy))
      have e : s_Se_valueLetter c S i kk j = some (v[j]'hjv, S) := by
        rw [zq_e_valLetter2 h hi hv (b := (j : Int)) ⟨by omega, by omega⟩]
        unfold zq_ltA
        rw [if_pos (by omega), Int.toNat_natCast, List.getD_eq_getElem?_getD, hy]; rfl
      have eb := zq_e_byteAt (c := c) (S := S) ht (i := a + j) ⟨by omega, by omega⟩
      rw [hT] at eb
      have hTR := zq_bt_R S (a + j)
      rw [hT] at hTR
      have ih := zq_E_vb15 h ht hT hi hv ha hl f (j + 1) (by omega) (by omega)
      rw [show ((j + 1 : Nat) : Int) = (j : Int) + 1 by omega, show a + ((j : Int) + 1) = a + j + 1 by omega] at ih
      rw [if_neg (by omega), zq_mb2_eq e, zq_mb2_eq eb, show len - j = (len - (j + 1)) + 1 by omega, zq_slF, List.drop_eq_getElem_cons hjv, List.take_succ_cons]
      generalize v[j]'hjv = b at *
      rw [zq_w32i (z := b) (by omega) (by omega), zq_w32i (z := T (a + j)) (by omega) (by omega)]
      by_cases c2 : b = T (a + j)
      · rw [if_pos c2, ih]
        have : zq_b01 (zq_slF T (len - (j + 1)) (a + j + 1) = (v.drop (j + 1)).take (len - (j + 1))) = zq_b01 (T (a + j) :: zq_slF T (len - (j + 1)) (a + j + 1) = b :: (v.drop (j + 1)).take (len - (j + 1))) := zq_b01_i _ _ (by rw [List.cons.injEq]; exact ⟨fun z => ⟨c2.symm, z⟩, fun z => z.2⟩)
        rw [this]
      · rw [if_neg c2, zq_b01_f (by rw [List.cons.injEq]; exact fun z => c2 z.1.symm)]
set_option maxRecDepth 100000 in
theorem zq_e_begins (h : zq_RLb c S M lb) (ht : zq_tpI c S) (hT : zq_bt S = T) {i : Nat} (hi : i < c.N) {kk : Int} {v : List Int} (hv : zq_lbK (lb i) kk v) {a l : Int} (ha : 0 ≤ a ∧ 0 ≤ l ∧ a + l ≤ 100000) : s_Se_valueBegins c S i kk a l = some (zq_b01 ((zq_sl T a (a + l)).isPrefixOf v = true), S) := by
  have lv := zq_lbK_len h hi hv
  obtain ⟨len, rfl⟩ : ∃ len : Nat, l = len := ⟨l.toNat, by omega⟩
  rw [s_Se_valueBegins, zq_mb2_eq (zq_e_valLen2 h hi hv), zq_w32i (z := (len : Int)) (by omega) (by omega), zq_w32i (z := (v.length : Int)) (by omega) (by omega)]
  have el : (zq_sl T a (a + (len : Int))).length = len := by rw [zq_sl_F, zq_slF_len]; omega
  by_cases c1 : len ≤ v.length
  · have e := zq_E_vb15 h ht hT hi hv (a := a) (len := len) (by omega) c1 fU 0 (by omega) (zq_fU_gt (by omega))
    rw [if_pos (by omega)]
    refine Eq.trans e ?_
    have : zq_b01 (zq_slF T (len - 0) (a + (0 : Nat)) = (v.drop 0).take (len - 0)) = zq_b01 ((zq_sl T a (a + (len : Int))).isPrefixOf v = true) := zq_b01_i _ _ (by
      rw [zq_pre_iff, el, zq_sl_F]
      simp only [Nat.sub_zero, List.drop_zero, Int.toNat_natCast]
      rw [show a + ((0 : Nat) : Int) = a by omega]
      exact ⟨fun z => ⟨c1, z⟩, fun z => z.2⟩)
    rw [this]
  · rw [if_neg (by omega), zq_b01_f (by rw [zq_pre_iff, el]; exact fun z => c1 z.1)]
set_option maxRecDepth 100000 in
theorem zq_w_match (h : zq_RLb c S M lb) (hp : zq_PB k0 T n c S L) {i : Nat} (hi : i < c.N) {m0 : Nat} {m : zq_MT} (hm : zq_okM n m) (h0 : L[m0]? = some m.1.1) (h1 : L[m0 + 1]? = some m.1.2) (h2 : L[m0 + 2]? = some m.2.1) (h3 : L[m0 + 3]? = some m.2.2.1) (h4 : L[m0 + 4]? = some m.2.2.2) : s_Ev_matches c S i m0 = some (zq_b01 (zq_mtch T (lb i) m = true), S) := by
  obtain ⟨a1, a2, a3⟩ := hm
  have hn2 := hp.2.1.2.2.2
  have g0 := zq_w_get hp h0
  have g1 : s_Pg_get c S ((m0 : Int) + 1) = some (m.1.2, S) := zq_w_get hp h1
  have g2 : s_Pg_get c S ((m0 : Int) + 2) = some (m.2.1, S) := zq_w_get hp h2
  have g3 : s_Pg_get c S ((m0 : Int) + 3) = some (m.2.2.1, S) := zq_w_get hp h3
  have g4 : s_Pg_get c S ((m0 : Int) + 4) = some (m.2.2.2, S) := zq_w_get hp h4
  obtain ⟨kk, l1, l2⟩ := zq_e_labelNamed2 h hp.2.1.1 hp.2.1.2.1 hp.2.1.2.2.1 hn2 hi (y := m.1) a1
  have eb := zq_e_begins h hp.2.1.1 hp.2.1.2.1 hi l2 (a := m.2.2.1) (l := m.2.2.2) (by omega)
  have lv := zq_lbK_len h hi l2
  generalize hvv : zq_vOf (lb i) (zq_nmx T m.1) = vv at *
  have ms : m.2.1 = 61 ∨ m.2.1 = 305 ∨ m.2.1 = 306 ∨ m.2.1 = 307 := by unfold zq_isMS at a2; simpa using a2
  have em : zq_mtch T (lb i) m = (if m.2.1 = 61 then vv == zq_sl T m.2.2.1 (m.2.2.1 + m.2.2.2) else if m.2.1 = 305 then !(vv == zq_sl T m.2.2.1 (m.2.2.1 + m.2.2.2)) else if m.2.1 = 306 then (zq_sl T m.2.2.1 (m.2.2.1 + m.2.2.2)).isPrefixOf vv else !((zq_sl T m.2.2.1 (m.2.2.1 + m.2.2.2)).isPrefixOf vv)) := by
    unfold zq_mtch; rw [hvv]
  generalize htt : zq_sl T m.2.2.1 (m.2.2.1 + m.2.2.2) = tt at *
  have elen : (tt.length : Int) = m.2.2.2 := by rw [← htt, zq_sl_F, zq_slF_len]; omega
  -- the end of it
  have fin : s_Ev_matches c S i m0 = q_Ev_matches_82 c m0 (zq_b01 (tt.isPrefixOf vv = true)) (zq_b01 (vv = tt)) S := by
    rw [s_Ev_matches, zq_mb2_eq g0, zq_mb2_eq g1, zq_mb2_eq l1, zq_mb2_eq g4, zq_mb2_eq g3, zq_mb2_eq eb]
    by_cases c1 : tt.isPrefixOf vv = true
    · have hpre := (zq_pre_iff _ _).mp c1
      rw [zq_b01_t c1, if_neg (by decide), zq_mb2_eq (zq_e_valLen2 h hi l2), zq_w32i (z := (vv.length : Int)) (by omega) (by omega), zq_w32i (z := m.2.2.2) (by omega) (by omega)]
      by_cases c2 : (vv.length : Int) = m.2.2.2
      · have : vv = tt := by rw [hpre.2, show tt.length = vv.length by omega, List.take_length]
        rw [if_pos c2, zq_b01_t this]
      · have : ¬ vv = tt := fun z => c2 (by rw [z]; exact elen)
        rw [if_neg c2, q_Ev_matches_81, zq_b01_f this]
    · have : ¬ vv = tt := fun z => c1 (by rw [z, zq_pre_iff]; exact ⟨Nat.le_refl _, by rw [List.take_length]⟩)
      rw [zq_b01_f c1, if_pos (by decide), q_Ev_matches_81, zq_b01_f this]
  have eM : zq_b01 (zq_mtch T (lb i) m = true) = zq_b01 ((if m.2.1 = 61 then vv == tt else if m.2.1 = 305 then !(vv == tt) else if m.2.1 = 306 then tt.isPrefixOf vv else !(tt.isPrefixOf vv)) = true) := zq_b01_i _ _ (by rw [em])
  have r01 : ∀ (P : Prop) [Decidable P], zq_b01 P = 0 ∨ zq_b01 P = 1 := fun P _ => by unfold zq_b01; split <;> simp
  rw [fin, eM, q_Ev_matches_82, zq_mb2_eq g2, zq_w32i (z := m.2.1) (by omega) (by omega)]
  by_cases c1 : m.2.1 = 61
  · rw [if_pos c1, if_pos (r01 _)]
    have : zq_b01 (vv = tt) = zq_b01 ((if m.2.1 = 61 then vv == tt else if m.2.1 = 305 then !(vv == tt) else if m.2.1 = 306 then tt.isPrefixOf vv else !(tt.isPrefixOf vv)) = true) := zq_b01_i _ _ (by rw [if_pos c1]; simp)
    rw [this]
  rw [if_neg c1]
  by_cases c2 : m.2.1 = 305
  · rw [if_pos c2]
    by_cases c3 : vv = tt
    · rw [zq_b01_t c3, if_neg (by decide), zq_b01_f (by rw [if_neg c1, if_pos c2]; simp [c3])]
    · rw [zq_b01_f c3, if_pos (by decide), zq_b01_t (by rw [if_neg c1, if_pos c2]; simp [c3])]
  rw [if_neg c2]
  by_cases c4 : m.2.1 = 306
  · rw [if_pos c4, if_pos (r01 _)]
    have : zq_b01 (tt.isPrefixOf vv = true) = zq_b01 ((if m.2.1 = 61 then vv == tt else if m.2.1 = 305 then !(vv == tt) else if m.2.1 = 306 then tt.isPrefixOf vv else !(tt.isPrefixOf vv)) = true) := zq_b01_i _ _ (by rw [if_neg c1, if_neg c2, if_pos c4])
    rw [this]
  rw [if_neg c4]
  by_cases c5 : tt.isPrefixOf vv = true
  · rw [zq_b01_t c5, if_neg (by decide), zq_b01_f (by rw [if_neg c1, if_neg c2, if_neg c4, c5]; simp)]
  · rw [zq_b01_f c5, if_pos (by decide), zq_b01_t (by rw [if_neg c1, if_neg c2, if_neg c4, Bool.eq_false_iff.mpr c5]; rfl)]
set_option maxRecDepth 100000 in
/-- a function's record in the program -/
def zq_FRc (n : Int) (L : List Int) (v : Nat) (kd : Int) (ns : List zq_NM) (ms : List zq_MT) : Prop := zq_NR n L v ns ∧ L[v + 1]? = some kd ∧ L[v + 3]? = some (ms.length : Int) ∧ ∀ (j : Nat) (m : zq_MT), ms[j]? = some m → zq_okM n m ∧ L[v + 4 + 2 * ns.length + 5 * j]? = some m.1.1 ∧ L[v + 4 + 2 * ns.length + 5 * j + 1]? = some m.1.2 ∧ L[v + 4 + 2 * ns.length + 5 * j + 2]? = some m.2.1 ∧ L[v + 4 + 2 * ns.length + 5 * j + 3]? = some m.2.2.1 ∧ L[v + 4 + 2 * ns.length + 5 * j + 4]? = some m.2.2.2
set_option maxRecDepth 100000 in
theorem zq_E_mAll (h : zq_RLb c S M lb) (hp : zq_PB k0 T n c S L) (hL : L.length ≤ 65536) {i : Nat} (hi : i < c.N) {v : Nat} {kd : Int} {ns : List zq_NM} {ms : List zq_MT} (hF : zq_FRc n L v kd ns ms) : ∀ (m f j : Nat), j + m = ms.length → m < f → (ms.length ≤ 65536) → q_Ev_matchesAll_2 c f i v j S = some (zq_b01 ((ms.drop j).all (zq_mtch T (lb i)) = true), S)
  | m, 0, j => by omega
  | m, f + 1, j => by
    intro hj hf hml
    have em : s_Pg_matchesOf c S v = some ((ms.length : Int), S) := by
      have : s_Pg_get c S ((v : Int) + 3) = some ((ms.length : Int), S) := zq_w_get hp hF.2.2.1
      rw [s_Pg_matchesOf, zq_mb2_eq this]
    rw [q_Ev_matchesAll_2, zq_mb2_eq em, zq_w32i (z := (ms.length : Int)) (by omega) (by omega), zq_w32i (z := (j : Int)) (by omega) (by omega)]
    cases m with
    | zero =>
      rw [if_pos (by omega), List.drop_eq_nil_of_le (by omega), zq_b01_t (by simp)]
    | succ m =>
      have hjl : j < ms.length := by omega
      have hx : ms[j]? = some (ms[j]'hjl) := List.getElem?_eq_getElem _
      obtain ⟨o, l0, l1, l2, l3, l4⟩ := hF.2.2.2 j _ hx
      have e2 : s_Pg_matchOf c S v j = some (((v + 4 + 2 * ns.length + 5 * j : Nat) : Int), S) := by
        rw [s_Pg_matchOf, zq_mb2_eq (zq_w_namesOf hp hF.1)]
        rw [show (v : Int) + 4 + 2 * (ns.length : Int) + 5 * (j : Int) = ((v + 4 + 2 * ns.length + 5 * j : Nat) : Int) by omega]
      have e3 := zq_w_match h hp hi o l0 l1 l2 l3 l4
      rw [if_neg (by omega), zq_mb2_eq e2, zq_mb2_eq e3, List.drop_eq_getElem_cons hjl, List.all_cons]
      generalize ms[j]'hjl = x at *
      by_cases c1 : zq_mtch T (lb i) x = true
      · have ih := zq_E_mAll h hp hL hi hF m f (j + 1) (by omega) (by omega) hml
        rw [show ((j + 1 : Nat) : Int) = (j : Int) + 1 by omega] at ih
        rw [zq_b01_t c1, if_neg (by decide), ih]
        have : zq_b01 ((ms.drop (j + 1)).all (zq_mtch T (lb i)) = true) = zq_b01 ((zq_mtch T (lb i) x && (ms.drop (j + 1)).all (zq_mtch T (lb i))) = true) := zq_b01_i _ _ (by rw [c1]; simp)
        rw [this]
      · rw [zq_b01_f c1, if_pos (by decide), zq_b01_f (by simp [c1])]
set_option maxRecDepth 100000 in
theorem zq_w_mAll (h : zq_RLb c S M lb) (hp : zq_PB k0 T n c S L) (hL : L.length ≤ 65536) {i : Nat} (hi : i < c.N) {v : Nat} {kd : Int} {ns : List zq_NM} {ms : List zq_MT} (hF : zq_FRc n L v kd ns ms) (hml : ms.length ≤ 65536) : s_Ev_matchesAll c S i v = some (zq_b01 (zq_mAll T lb ms (i : Int) = true), S) := by
  have := zq_E_mAll h hp hL hi hF ms.length fU 0 (by omega) (zq_fU_gt (by omega)) hml
  rw [List.drop_zero] at this
  exact this
end
/-! a function of the program -/
set_option maxRecDepth 100000 in
theorem zq_w_moments {k : Nat} {c : CW} {S : WS} (g : zq_gdB k c S) (ht : c.tc ≤ 20500) (h0 : 0 ≤ S.tp_size) (hk : k < 512) {x : Int} (hx : 0 ≤ x ∧ x ≤ 16384) : ∃ mo bc bs f, s_Ev_makeMoments c S x = some ((), CW.w_mo (CW.w_bs (CW.w_bc c bc) bs) mo, WS.w_ev_moments S f) ∧ zq_gdB k (CW.w_mo (CW.w_bs (CW.w_bc c bc) bs) mo) S ∧ x ≤ mo ∧ mo ≤ 16384 := by
  have lo := zq_gdB_low g ht h0 hk
  have g0 := g
  obtain ⟨g1, g2, g3, g4, g5⟩ := g
  rw [s_Ev_makeMoments, zq_w32i (z := x) (by omega) (by omega), zq_w32i (z := c.mo) (by omega) (by omega)]
  by_cases c1 : x ≤ c.mo
  · rw [if_pos c1]
    exact ⟨c.mo, c.bc, c.bs, S.ev_moments, rfl, g0, c1, g4.2⟩
  · obtain ⟨X, hX⟩ : ∃ X : Nat, max x (min (2 * c.mo) 16384) = X := ⟨(max x (min (2 * c.mo) 16384)).toNat, by omega⟩
    have eX : max x (w32 (min (w32 (2 * c.mo)) 16384)) = (X : Int) := by
      rw [zq_w32i (z := 2 * c.mo) (by omega) (by omega), zq_w32i (z := min (2 * c.mo) 16384) (by omega) (by omega), hX]
    rw [if_neg c1, eX, if_pos ⟨⟨by omega, by omega⟩, by omega, by omega⟩]
    refine ⟨X, c.bc - 1, c.bs - (X : Int).toNat, fun _ => 0, rfl, ⟨?_, ?_, g3, ⟨by show (0 : Int) ≤ X; omega, by show (X : Int) ≤ 16384; omega⟩, g5⟩, by omega, by omega⟩
    · have ep : zq_potC (CW.w_mo (CW.w_bs (CW.w_bc c (c.bc - 1)) (c.bs - (X : Int).toNat)) (X : Int)) = zq_potC c + (zq_gL X - zq_gL c.mo) := by
        show zq_gL c.tc + zq_gL c.oc + zq_gL (X : Int) + zq_sumG (fun j => 2 * zq_gL (c.gc j)) 19 = zq_gL c.tc + zq_gL c.oc + zq_gL c.mo + zq_sumG (fun j => 2 * zq_gL (c.gc j)) 19 + _
        omega
      have hgl : zq_gL c.mo + 1 ≤ zq_gL X := by
        by_cases z : c.mo ≤ 0
        · have : zq_gL c.mo = 0 := by unfold zq_gL; rw [if_pos z]
          rw [this]; unfold zq_gL; rw [if_neg (by omega)]; omega
        · by_cases z2 : 2 * c.mo ≤ X
          · have := zq_gL_mono z2; rw [zq_gL_two (by omega)] at this; exact this
          · have hX2 : X = 16384 := by omega
            have h15 : zq_gL ((16384 : Nat) : Int) = 15 := by decide
            have h14 : zq_gL c.mo ≤ 14 := by
              have := zq_gL_mono (x := c.mo) (y := 16383) (by omega)
              have e : zq_gL 16383 = 14 := by decide
              omega
            rw [hX2]; omega
      rw [ep]
      show _ ≤ ((c.bc - 1 : Nat) : Int) + _
      omega
    · have ep : zq_potS (CW.w_mo (CW.w_bs (CW.w_bc c (c.bc - 1)) (c.bs - (X : Int).toNat)) (X : Int)) = zq_potS c + (2 * (X : Int) + (if (X : Int) = 16384 then 16384 else 0) - 2 * c.mo) := by
        show 2 * c.tc + 2 * c.oc + 2 * (X : Int) + (if (X : Int) = 16384 then 16384 else 0) + zq_sumG (fun j => zq_gP (c.gc j)) 19 = 2 * c.tc + 2 * c.oc + 2 * c.mo + (if c.mo = 16384 then 16384 else 0) + zq_sumG (fun j => zq_gP (c.gc j)) 19 + _
        rw [if_neg (show ¬ c.mo = 16384 by omega)]; omega
      have hgp : (X : Int) ≤ 2 * (X : Int) + (if (X : Int) = 16384 then 16384 else 0) - 2 * c.mo := by
        by_cases z : (X : Int) = 16384
        · rw [if_pos z]; omega
        · rw [if_neg z]; omega
      rw [ep]
      show _ ≤ ((c.bs - (X : Int).toNat : Nat) : Int) + _
      omega
set_option maxRecDepth 100000 in
theorem zq_keyOf_nil (T : Int → Int) (lb : Nat → zq_LB) (i : Int) : zq_keyOf T lb [] i = [] := rfl
section
variable {k0 : Nat} {T : Int → Int} {n : Int} {lb : Nat → zq_LB} {fr wd : Int64} {c : CW} {S : WS} {M : MS} {L : List Int} {v v0 W : Nat} {ns : List zq_NM} {ms : List zq_MT} {Ks : List zq_Key} {kd : Int}
set_option maxRecDepth 100000 in
/-- series and groups -/
def zq_SG0 (T : Int → Int) (lb : Nat → zq_LB) (c : CW) (S : WS) (Ks : List zq_Key) (ns : List zq_NM) (pts : List zq_P4) : Prop := (∀ i, i < c.N → zq_ptI c S i ∧ (∀ j, 0 ≤ j → j < S.pt_size i → 0 ≤ (S.pt_times i j).toInt ∧ (S.pt_times i j).toInt ≤ 1099511627775) ∧ zq_cpts S i = zq_serP (i : Int) pts) ∧ (∀ x ∈ pts, 0 ≤ x.1 ∧ x.1 < (c.N : Int)) ∧ Ks.Nodup ∧ Ks.length ≤ 256 ∧ (ns ≠ [] → S.gr_size = Ks.length ∧ ∀ i : Nat, i < c.N → ∃ g : Nat, S.gr_groupOf i = g ∧ Ks[g]? = some (zq_keyOf T lb ns (i : Int)))
set_option maxRecDepth 100000 in
theorem zq_KT_nd (h : Ks.Nodup) (ns : List zq_NM) : (zq_KT Ks ns).Nodup := by
  unfold zq_KT; split
  · simp
  · exact h
set_option maxRecDepth 100000 in
theorem zq_SG0_row {pts : List zq_P4} (h : zq_SG0 T lb c S Ks ns pts) {i : Nat} (hi : i < c.N) : ∃ g : Nat, (zq_KT Ks ns)[g]? = some (zq_keyOf T lb ns (i : Int)) ∧ (ns ≠ [] → S.gr_groupOf i = g) ∧ (ns = [] → g = 0) := by
  by_cases c1 : ns = []
  · subst c1; exact ⟨0, rfl, fun z => absurd rfl z, fun _ => rfl⟩
  · obtain ⟨g, g1, g2⟩ := (h.2.2.2.2 c1).2 i hi
    exact ⟨g, by rw [zq_KT_len c1]; exact g2, fun _ => g1, fun z => absurd z c1⟩
set_option maxRecDepth 100000 in
theorem zq_E_pf77 {pts : List zq_P4} (h : zq_gok c S v (zq_KT Ks ns).length W) (hw : S.ev_windows = W) (hfr : S.ev_from = fr ∧ 0 ≤ fr.toInt ∧ fr.toInt ≤ 1099511627775) (hwd : S.ev_width = wd ∧ 1 ≤ wd.toInt ∧ wd.toInt ≤ 1099511627775) (hk : 1 ≤ kd ∧ kd ≤ 7) (hmo : (kd = 5 ∨ kd = 6) → (((zq_KT Ks ns).length * W : Nat) : Int) ≤ c.mo ∧ c.mo ≤ 16384) (hlb : zq_RLb c S M lb) (hp : zq_PB k0 T n c S L) (hL : L.length ≤ 65536) (hF : zq_FRc n L v0 kd ns ms) (hml : ms.length ≤ 65536) (hG : zq_SG0 T lb c S Ks ns pts) {nmd : Int} (hnmd : (nmd = 0 ∧ ns = []) ∨ (nmd = 1 ∧ ns ≠ [])) : ∀ (m f s : Nat) (th : Int → Int) (nu mo : Int → Int64), s + m = c.N → m < f → zq_IV T lb fr wd W ns ms (zq_KT Ks ns) kd s th nu mo (zq_PLs (zq_cpts S) s) → ∃ th' nu' mo', q_Ev_pushFunc_77 f c v0 nmd v kd s (zq_gpm S v th nu mo) = some ((), c, zq_gpm S v th' nu' mo') ∧ zq_IV T lb fr wd W ns ms (zq_KT Ks ns) kd c.N th' nu' mo' (zq_PLs (zq_cpts S) c.N)
  | m, 0, s, th, nu, mo => by omega
  | m, f + 1, s, th, nu, mo => by
    intro hm hf hI
    have hN := hlb.1.1
    have es : s_St_size c (zq_gpm S v th nu mo) = some ((c.N : Int), zq_gpm S v th nu mo) := rfl
    rw [q_Ev_pushFunc_77, zq_mb2_eq es, zq_w32i (z := (c.N : Int)) (by omega) (by omega), zq_w32i (z := (s : Int)) (by omega) (by omega)]
    cases m with
    | zero =>
      have : s = c.N := by omega
      subst this
      rw [if_pos (by omega)]; exact ⟨th, nu, mo, rfl, hI⟩
    | succ m =>
      have hsN : s < c.N := by omega
      have hlb' : zq_RLb c (zq_gpm S v th nu mo) M lb := hlb
      have hp' : zq_PB k0 T n c (zq_gpm S v th nu mo) L := hp
      have em := zq_w_mAll hlb' hp' hL hsN hF hml
      rw [if_neg (by omega), if_pos ⟨⟨by omega, by omega⟩, hN⟩, Int.toNat_natCast, zq_mb2_eq em]
      -- the next series
      have nxt : ∀ (th1 : Int → Int) (nu1 mo1 : Int → Int64), zq_IV T lb fr wd W ns ms (zq_KT Ks ns) kd s th1 nu1 mo1 (zq_PLs (zq_cpts S) s ++ zq_annG (s : Int) none (zq_cpts S s)) → ∃ th' nu' mo', q_Ev_pushFunc_144 (q_Ev_pushFunc_77 f) c v0 nmd v kd s (zq_gpm S v th1 nu1 mo1) = some ((), c, zq_gpm S v th' nu' mo') ∧ zq_IV T lb fr wd W ns ms (zq_KT Ks ns) kd c.N th' nu' mo' (zq_PLs (zq_cpts S) c.N) := by
        intro th1 nu1 mo1 h1
        rw [← zq_PLs_succ] at h1
        obtain ⟨th', nu', mo', b1, b2⟩ := zq_E_pf77 h hw hfr hwd hk hmo hlb hp hL hF hml hG hnmd m f (s + 1) th1 nu1 mo1 (by omega) (by omega) (zq_IV_mono h1 (by omega))
        rw [show ((s + 1 : Nat) : Int) = (s : Int) + 1 by omega] at b1
        exact ⟨th', nu', mo', by rw [q_Ev_pushFunc_144]; exact b1, b2⟩
      obtain ⟨hpt, htm, hcp⟩ := hG.1 s hsN
      by_cases c1 : zq_mAll T lb ms (s : Int) = true
      · obtain ⟨g, g1, g2, g3⟩ := zq_SG0_row hG hsN
        obtain ⟨th1, nu1, mo1, a1, a2⟩ := zq_w_addPoints h hw hfr hwd hk hmo hpt htm (zq_KT_nd hG.2.2.1 ns) g1 c1 hI
        obtain ⟨th', nu', mo', b1, b2⟩ := nxt th1 nu1 mo1 a2
        have e136 : q_Ev_pushFunc_136 (q_Ev_pushFunc_77 f) c v0 nmd v kd s s g v kd (zq_gpm S v th nu mo) = some ((), c, zq_gpm S v th' nu' mo') := by
          have e0 : s_Se_points c (zq_gpm S v th nu mo) s = some (s, zq_gpm S v th nu mo) := rfl
          rw [q_Ev_pushFunc_136, zq_mb2_eq e0, if_pos hsN, zq_mb2_eq a1]; exact b1
        rw [zq_b01_t c1, if_neg (by decide)]
        refine ⟨th', nu', mo', ?_, b2⟩
        rcases hnmd with ⟨rfl, hn⟩ | ⟨rfl, hn⟩
        · rw [if_pos (by decide)]
          rw [g3 hn] at e136; exact e136
        · have eg : s_Gr_groupOf c (zq_gpm S v th nu mo) s = some ((g : Int), zq_gpm S v th nu mo) := by
            rw [s_Gr_groupOf, zq_w32i (z := (s : Int)) (by omega) (by omega), if_neg (by omega), if_neg (by omega), if_pos (by omega)]
            rw [show (zq_gpm S v th nu mo).gr_groupOf s = g from g2 hn]
          rw [if_neg (by decide), zq_mb2_eq eg]; exact e136
      · rw [zq_b01_f c1, if_pos (by decide)]
        refine nxt th nu mo (zq_IV_skip hI (fun x hx k w _ _ => ?_))
        have := zq_annG_mem (s : Int) _ _ x hx
        unfold zq_fits
        rw [this, Bool.eq_false_iff.mpr c1]; simp
set_option maxRecDepth 100000 in
theorem zq_w_pushF {pts : List zq_P4} (hE : zq_EB k0 W fr wd c S) {st : List zq_Tbl} (hS : zq_SK c S W Ks st) (h18 : st.length ≤ 18) (hfr : 0 ≤ fr.toInt ∧ fr.toInt ≤ 1099511627775) (hwd : 1 ≤ wd.toInt ∧ wd.toInt ≤ 1099511627775) (hk : 1 ≤ kd ∧ kd ≤ 7) (hlb : zq_RLb c S M lb) (hp : zq_PB k0 T n c S L) (hL : L.length ≤ 65536) (hF : zq_FRc n L v0 kd ns ms) (hml : ms.length ≤ 65536) (hG : zq_SG0 T lb c S Ks ns pts) : ∃ c' S', s_Ev_pushFunc c S v0 = some ((), c', S') ∧ zq_FE c S c' S' ∧ zq_EB k0 W fr wd c' S' ∧ zq_SK c' S' W Ks ((ns, zq_funT T lb pts fr wd W kd ns ms) :: st) := by
  have hRE := hE.2.2.2.2.1
  have hW := hE.2.2.2.2.2.2.1
  have h6 := hF.1.2.2.2
  have hKl : (zq_KT Ks ns).length ≤ 256 := by
    unfold zq_KT; split
    · simp
    · exact hG.2.2.2.1
  obtain ⟨nmd, hnmd⟩ : ∃ nmd : Int, (nmd = 0 ∧ ns = []) ∨ (nmd = 1 ∧ ns ≠ []) := by
    by_cases z : ns = []
    · exact ⟨0, Or.inl ⟨rfl, z⟩⟩
    · exact ⟨1, Or.inr ⟨rfl, z⟩⟩
  have hnl : (nmd = 0 ∧ (zq_KT Ks ns).length = 1) ∨ nmd = 1 := by
    rcases hnmd with ⟨a, b⟩ | ⟨a, b⟩
    · exact Or.inl ⟨a, by rw [b]; rfl⟩
    · exact Or.inr a
  obtain ⟨c1, S1, a1, a2, a3, a4, ⟨a5, a5'⟩, a6, a7, a8, a9, a10, a11⟩ := zq_w_push hE hS.1 h18 (L := (zq_KT Ks ns).length) hKl (nm := nmd) hnl
  generalize hv : S.ev_stack st.length = v at *
  -- the start of it
  have est : s_Ev_pushFunc c S v0 = q_Ev_pushFunc_33 c v0 nmd (zq_KT Ks ns).length S := by
    rw [s_Ev_pushFunc, zq_mb2_eq (zq_w_namesOf hp hF.1), zq_w32i (z := (ns.length : Int)) (by omega) (by omega)]
    rcases hnmd with ⟨rfl, hn⟩ | ⟨rfl, hn⟩
    · rw [hn, if_pos (by simp), q_Ev_pushFunc_16, if_pos (by decide)]; rfl
    · have : 0 < ns.length := List.length_pos_iff.mpr hn
      have eg : s_Gr_size c S = some (((zq_KT Ks ns).length : Int), S) := by rw [s_Gr_size, zq_KT_len hn, (hG.2.2.2.2 hn).1]
      rw [if_neg (by omega), q_Ev_pushFunc_16, if_neg (by decide), zq_mb2_eq eg]
  -- the moments
  have hc1 : ∃ gc gd mo bc bs, c1 = zq_ecw c gc gd mo bc bs := a3.1
  have hS1 : ∃ h sk mo ln wn nm nu th, S1 = zq_evw S h sk mo ln wn nm nu th := a3.2
  have hxb : 0 ≤ (((zq_KT Ks ns).length * W : Nat) : Int) ∧ (((zq_KT Ks ns).length * W : Nat) : Int) ≤ 16384 := by
    have := a7.2.2.2.2; omega
  obtain ⟨c2, S2, b1, b2, b3, b4, b5⟩ : ∃ c2 S2, s_Ev_pushFunc c S v0 = q_Ev_pushFunc_74 c2 v0 nmd v kd S2 ∧ zq_FE c1 S1 c2 S2 ∧ zq_EB k0 W fr wd c2 S2 ∧ (∃ mo bc bs f, c2 = CW.w_mo (CW.w_bs (CW.w_bc c1 bc) bs) mo ∧ S2 = WS.w_ev_moments S1 f) ∧ ((kd = 5 ∨ kd = 6) → (((zq_KT Ks ns).length * W : Nat) : Int) ≤ c2.mo ∧ c2.mo ≤ 16384) := by
    have hp1 : zq_PB k0 T n c1 S1 L := by
      obtain ⟨gc, gd, mo, bc, bs, rfl⟩ := hc1
      obtain ⟨x1, x2, x3, x4, x5, x6, x7, x8, rfl⟩ := hS1
      exact ⟨⟨a4.1, hp.1.2⟩, hp.2⟩
    have ek : s_Pg_kindOf c1 S1 v0 = some (kd, S1) := by
      have : s_Pg_get c1 S1 ((v0 : Int) + 1) = some (kd, S1) := zq_w_get hp1 hF.2.1
      rw [s_Pg_kindOf, zq_mb2_eq this]
    have e33 : s_Ev_pushFunc c S v0 = if kd = 5 ∨ kd = 6 then q_Ev_pushFunc_61 c1 v0 nmd v kd S1 else q_Ev_pushFunc_74 c1 v0 nmd v kd S1 := by
      rw [est, q_Ev_pushFunc_33, zq_mb3_eq a1, if_pos a2, zq_mb2_eq ek, zq_w32i (z := kd) (by omega) (by omega)]
      by_cases z5 : kd = 5
      · rw [if_pos z5, if_pos (Or.inl z5)]
      · by_cases z6 : kd = 6
        · rw [if_neg z5, if_pos z6, if_pos (Or.inr z6)]
        · rw [if_neg z5, if_neg z6, if_neg (by omega)]
    by_cases z : kd = 5 ∨ kd = 6
    · obtain ⟨mo, bc, bs, f, m1, m2, m3, m4⟩ := zq_w_moments a4.1 a4.2.1 a4.2.2.1 a4.2.2.2.1 hxb
      refine ⟨_, _, ?_, ⟨⟨c1.gc, c1.gd, mo, bc, bs, rfl⟩, S1.ev_height, S1.ev_stack, f, S1.gd_lines, S1.gd_windows, S1.gd_named, S1.gd_numbers, S1.gd_there, rfl⟩, ⟨m2, a4.2⟩, ⟨mo, bc, bs, f, rfl, rfl⟩, fun _ => ⟨m3, m4⟩⟩
      have el : s_Gd_lines c1 S1 v = some (((zq_KT Ks ns).length : Int), S1) := by rw [s_Gd_lines, a7.2.2.1.1]
      rw [e33, if_pos z, q_Ev_pushFunc_61, zq_mb2_eq el, show S1.ev_windows = W from a4.2.2.2.2.2.1, ← Int.natCast_mul, zq_mb3_eq m1]; rfl
    · exact ⟨c1, S1, by rw [e33, if_neg z], zq_FE_refl _ _, a4, ⟨c1.mo, c1.bc, c1.bs, S1.ev_moments, rfl, rfl⟩, fun z' => absurd z' z⟩
  obtain ⟨mo2, bc2, bs2, f2, rfl, rfl⟩ := b4
  have hFE := zq_FE_tr a3 b2
  -- what the evaluator doesn't change
  have hall : zq_RLb (CW.w_mo (CW.w_bs (CW.w_bc c1 bc2) bs2) mo2) (WS.w_ev_moments S1 f2) M lb ∧ zq_PB k0 T n (CW.w_mo (CW.w_bs (CW.w_bc c1 bc2) bs2) mo2) (WS.w_ev_moments S1 f2) L ∧ zq_SG0 T lb (CW.w_mo (CW.w_bs (CW.w_bc c1 bc2) bs2) mo2) (WS.w_ev_moments S1 f2) Ks ns pts := by
    obtain ⟨gc, gd, mo, bc, bs, rfl⟩ := hc1
    obtain ⟨x1, x2, x3, x4, x5, x6, x7, x8, rfl⟩ := hS1
    exact ⟨hlb, ⟨⟨b3.1, hp.1.2⟩, hp.2⟩, hG⟩
  obtain ⟨th, nu, mo, d1, d2⟩ := zq_E_pf77 (c := CW.w_mo (CW.w_bs (CW.w_bc c1 bc2) bs2) mo2) (S := WS.w_ev_moments S1 f2) a7 b3.2.2.2.2.2.1 ⟨b3.2.2.2.2.2.2.2.1, hfr⟩ ⟨b3.2.2.2.2.2.2.2.2, hwd⟩ hk b5 hall.1 hall.2.1 hL hF hml hall.2.2 hnmd c1.N fU 0 (S1.gd_there v) (S1.gd_numbers v) f2 (by show 0 + c1.N = c1.N; omega) (zq_fU_gt (by have := hall.1.1.1; have e : (CW.w_mo (CW.w_bs (CW.w_bc c1 bc2) bs2) mo2).N = c1.N := rfl; omega)) (by
    intro r k w hk' hw'
    refine ⟨?_, fun _ y hy => by simp [zq_PLs] at hy⟩
    have := a9 r w (List.getElem?_eq_some_iff.mp hk').1 hw'
    simpa [zq_PLs] using this)
  have eid : zq_gpm (WS.w_ev_moments S1 f2) v (S1.gd_there v) (S1.gd_numbers v) f2 = WS.w_ev_moments S1 f2 := by
    have := zq_gpc_id (WS.w_ev_moments S1 f2) v
    have e2 : zq_gpm (WS.w_ev_moments S1 f2) v (S1.gd_there v) (S1.gd_numbers v) f2 = WS.w_ev_moments (WS.w_ev_moments S1 f2) f2 := congrArg (fun Z => WS.w_ev_moments Z f2) this
    rw [e2]
  rw [eid] at d1
  have hFE2 : zq_FE (CW.w_mo (CW.w_bs (CW.w_bc c1 bc2) bs2) mo2) (WS.w_ev_moments S1 f2) (CW.w_mo (CW.w_bs (CW.w_bc c1 bc2) bs2) mo2) (zq_gpm (WS.w_ev_moments S1 f2) v th nu mo) := ⟨⟨c1.gc, c1.gd, mo2, bc2, bs2, rfl⟩, S1.ev_height, S1.ev_stack, mo, S1.gd_lines, S1.gd_windows, S1.gd_named, nU S1.gd_numbers v nu, nU S1.gd_there v th, rfl⟩
  refine ⟨_, _, ?_, zq_FE_tr hFE hFE2, b3, zq_SK_cons (zq_SK_rest hS.2 (fun j hj => ?_)) a5' ?_⟩
  · rw [b1, q_Ev_pushFunc_74]; exact d1
  · have hne : S.ev_stack j ≠ v := fun z => by have := hRE.2 j st.length (by omega) (by omega) (by omega) (by omega) (by rw [z, hv]); omega
    refine ⟨by show S1.ev_stack j = _; rw [a5], zq_gsm_tr (a6 _ hne) ⟨⟨rfl, rfl⟩, ⟨rfl, rfl, rfl⟩, ?_, ?_⟩⟩
    · exact nU_ne _ _ _ _ hne
    · exact nU_ne _ _ _ _ hne
  · show zq_GT _ _ (S1.ev_stack st.length) W Ks _
    rw [a5, hv]
    have efold : ∀ k w, ((zq_annF (fun _ => none) pts).filter (zq_fits T lb fr wd W ns ms k w)).foldl (zq_cst kd) none = ((zq_PLs (zq_cpts S) c.N).filter (zq_fits T lb fr wd W ns ms k w)).foldl (zq_cst kd) none := by
      intro k w
      have ecp : zq_PLs (zq_cpts S) c.N = zq_PLs (fun s => zq_serP (s : Int) pts) c.N := by
        unfold zq_PLs
        have : ∀ l : List Nat, (∀ s ∈ l, s < c.N) → l.flatMap (fun (s : Nat) => zq_annG (s : Int) none (zq_cpts S s)) = l.flatMap (fun (s : Nat) => zq_annG (s : Int) none (zq_serP (s : Int) pts)) := by
          intro l hl
          induction l with
          | nil => rfl
          | cons a r ih => rw [List.flatMap_cons, List.flatMap_cons, ih (fun s hs => hl s (List.mem_cons_of_mem _ hs)), (hG.1 a (hl a (by simp))).2.2]
        exact this _ (fun s hs => List.mem_range.mp hs)
      rw [ecp]
      refine zq_fun_fold hk hG.2.1 (fun i hi => ?_) _
      rw [← (hG.1 i hi).2.2]
      have hpt := (hG.1 i hi).1
      unfold zq_cpts
      rw [List.pairwise_iff_getElem]
      intro a b ha hb hab
      rw [zq_gsl_len] at ha hb
      have ga := zq_gsl_get (zq_cp3 S i) (S.pt_size i).toNat 0 a ha
      have gb := zq_gsl_get (zq_cp3 S i) (S.pt_size i).toNat 0 b hb
      rw [(List.getElem?_eq_some_iff.mp ga).2, (List.getElem?_eq_some_iff.mp gb).2]
      exact hpt.2.1 _ _ (by omega) (by omega) (by omega)
    refine ⟨a7, ?_, ?_, fun k w hk' hw' => ?_⟩
    · show S1.gd_named v = _
      rw [a8]
      rcases hnmd with ⟨a, b⟩ | ⟨a, b⟩
      · rw [a]; exact (if_pos b).symm
      · rw [a]; exact (if_neg b).symm
    · have e1 : (zq_gpm (WS.w_ev_moments S1 f2) v th nu mo).gd_there v = th := nU_at _ _ _
      have e2 : (zq_gpm (WS.w_ev_moments S1 f2) v th nu mo).gd_numbers v = nu := nU_at _ _ _
      rw [e1, e2]
      intro r w hr hw'
      have hk' : (zq_KT Ks ns)[r]? = some ((zq_KT Ks ns)[r]'hr) := List.getElem?_eq_getElem _
      have q := (d2 r _ w hk' hw').1
      have ef : zq_FT Ks (ns, zq_funT T lb pts fr wd W kd ns ms) r w = ((((zq_PLs (zq_cpts S) c.N).filter (zq_fits T lb fr wd W ns ms ((zq_KT Ks ns)[r]'hr) w)).foldl (zq_cst kd) none).map (fun y => y.1)) := by
        unfold zq_FT
        show (match (zq_KT Ks ns)[r]? with | some k => zq_funT T lb pts fr wd W kd ns ms k w | none => none) = _
        rw [hk']
        show (((zq_annF (fun _ => none) pts).filter (zq_fits T lb fr wd W ns ms ((zq_KT Ks ns)[r]'hr) w)).foldl (zq_cst kd) none).map (fun y => y.1) = _
        rw [efold]
      rw [ef]
      have hN1 : (CW.w_mo (CW.w_bs (CW.w_bc c1 bc2) bs2) mo2).N = c.N ∧ zq_cpts (WS.w_ev_moments S1 f2) = zq_cpts S := by
        obtain ⟨gc, gd, mo, bc, bs, rfl⟩ := hc1
        obtain ⟨x1, x2, x3, x4, x5, x6, x7, x8, rfl⟩ := hS1
        exact ⟨rfl, rfl⟩
      rw [hN1.1, hN1.2] at q
      exact q
    · show (((zq_annF (fun _ => none) pts).filter (zq_fits T lb fr wd W ns ms k w)).foldl (zq_cst kd) none).map (fun y => y.1) = none
      have : (zq_annF (fun _ => none) pts).filter (zq_fits T lb fr wd W ns ms k w) = [] := by
        rw [List.filter_eq_nil_iff]
        intro x hx
        obtain ⟨y, y1, y2⟩ := zq_annF_s pts _ x hx
        have R := hG.2.1 y y1
        obtain ⟨g, g1, -, -⟩ := zq_SG0_row hG (i := x.1.toNat) (by omega)
        have hmem := List.mem_of_getElem? g1
        rw [show ((x.1.toNat : Nat) : Int) = x.1 by omega] at hmem
        unfold zq_fits
        have : zq_keyOf T lb ns x.1 ≠ k := fun z => hk' (by rw [← z]; exact hmem)
        simp [this]
      rw [this]; rfl
end
