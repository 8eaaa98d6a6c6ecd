set_option maxRecDepth 100000 in
theorem zq_sub_toInt {a b : Int64} (ha : 0 ≤ a.toInt ∧ a.toInt ≤ 1099511627775) (hb : 0 ≤ b.toInt ∧ b.toInt ≤ 1099511627775) : (a - b).toInt = a.toInt - b.toInt := by
  rw [Int64.toInt_sub, Int.bmod_eq_of_le (by omega) (by omega)]
set_option maxRecDepth 100000 in
theorem zq_div_toInt {a b : Int64} (ha : 0 ≤ a.toInt ∧ a.toInt ≤ 1099511627775) (hb : 1 ≤ b.toInt) : (a / b).toInt = a.toInt / b.toInt := by
  rw [Int64.toInt_div, Int.tdiv_eq_ediv_of_nonneg ha.1]
  have h1 : 0 ≤ a.toInt / b.toInt := Int.ediv_nonneg ha.1 (by omega)
  have h2 : a.toInt / b.toInt ≤ a.toInt := Int.ediv_le_self _ ha.1
  rw [Int.bmod_eq_of_le (by omega) (by omega)]
set_option maxRecDepth 100000 in
def zq_gy (M : MS) (ic : Int → Int) (ce kt : Int → Int64) (ks : Int → Int) (bf : Int → Int64) (hb : Int → Int) : MS := MS.w_m_hasBefore (MS.w_m_befores (zq_gz M ic ce kt ks) bf) hb
set_option maxRecDepth 100000 in
theorem zq_ix_lt {W r r' v : Int} (hv : v < W) (hr : r < r') (hW : 0 ≤ W) : r * W + v < r' * W := by
  have : (r + 1) * W ≤ r' * W := Int.mul_le_mul_of_nonneg_right (by omega) hW
  rw [Int.add_mul] at this; omega
set_option maxRecDepth 100000 in
theorem zq_ix_ne {W r r' v v' : Int} (hv : 0 ≤ v ∧ v < W) (hv' : 0 ≤ v' ∧ v' < W) (h : r ≠ r' ∨ v ≠ v') : r * W + v ≠ r' * W + v' := by
  intro e
  rcases Int.lt_trichotomy r r' with z | z | z
  · have := zq_ix_lt (v := v) hv.2 z (by omega); omega
  · subst z; omega
  · have := zq_ix_lt (v := v') hv'.2 z (by omega); omega
section
variable {T : Int → Int} {n w : Int} {lb : Nat → zq_LB} {N : Nat} {pts : List zq_P4} {fr wd : Int64} {W : Nat}
set_option maxRecDepth 100000 in
def zq_fits (T : Int → Int) (lb : Nat → zq_LB) (fr wd : Int64) (W : Nat) (ns : List zq_NM) (ms : List zq_MT) (k : zq_Key) (v : Nat) (x : zq_CT) : Bool := zq_mAll T lb ms x.1 && (zq_keyOf T lb ns x.1 == k) && (zq_winO fr wd W x.2.1 == some v)
set_option maxRecDepth 100000 in
def zq_BR (prev : Int → Option Int64) (bf : Int → Int64) (hb : Int → Int) (N : Nat) : Prop := ∀ s : Int, 0 ≤ s → s < N → (hb s = 0 ∧ prev s = none) ∨ (hb s = 1 ∧ prev s = some (bf s))
set_option maxRecDepth 100000 in
theorem zq_cst_R {kd : Int} {cs : zq_CS} {x : zq_CT} {N : Nat} (hN : N ≤ 256) (hx : 0 ≤ x.1 ∧ x.1 < (N : Int)) (h : (kd = 5 ∨ kd = 6) → ∀ y, cs = some y → 0 ≤ y.2.2 ∧ y.2.2 < 256) : (kd = 5 ∨ kd = 6) → ∀ y, zq_cst kd cs x = some y → 0 ≤ y.2.2 ∧ y.2.2 < 256 := by
  intro hk y hy
  have h' := h hk
  unfold zq_cst at hy
  rw [if_neg (by omega), if_neg (by omega), if_neg (by omega), if_neg (by omega)] at hy
  rcases hk with hk | hk
  · rw [if_pos hk] at hy
    cases cs with
    | none => injection hy with hy; rw [← hy]; show 0 ≤ x.1 ∧ x.1 < 256; omega
    | some z =>
      have hy : (if x.2.1.toInt < z.2.1 ∨ (x.2.1.toInt = z.2.1 ∧ x.1 < z.2.2) then some (x.2.2.1, x.2.1.toInt, x.1) else some z) = some y := hy
      split at hy
      · injection hy with hy; rw [← hy]; show 0 ≤ x.1 ∧ x.1 < 256; omega
      · injection hy with hy; rw [← hy]; exact h' z rfl
  · rw [if_neg (by omega), if_pos hk] at hy
    cases cs with
    | none => injection hy with hy; rw [← hy]; show 0 ≤ x.1 ∧ x.1 < 256; omega
    | some z =>
      have hy : (if z.2.1 < x.2.1.toInt ∨ (x.2.1.toInt = z.2.1 ∧ x.1 < z.2.2) then some (x.2.2.1, x.2.1.toInt, x.1) else some z) = some y := hy
      split at hy
      · injection hy with hy; rw [← hy]; show 0 ≤ x.1 ∧ x.1 < 256; omega
      · injection hy with hy; rw [← hy]; exact h' z rfl
set_option maxRecDepth 100000 in
theorem zq_E_reckon {M : MS} (hc : zq_CX lb N pts fr wd W M) {P kd : Int} (hP : 0 ≤ P ∧ P < 20) (hk : 1 ≤ kd ∧ kd ≤ 7) {ns : List zq_NM} {ms : List zq_MT} {ks : List zq_Key} (hR : ks.length ≤ 256) (hsr : 0 ≤ M.m_starts P ∧ M.m_starts P + ks.length * W ≤ 327680) (hnd : ks.Nodup) (hro : ∀ i : Nat, i < N → (zq_mAll T lb ms i = true → ∃ r : Nat, M.m_rowOf i = r ∧ ks[r]? = some (zq_keyOf T lb ns i)) ∧ (zq_mAll T lb ms i = false → M.m_rowOf i = -1)) : ∀ (rest : List zq_P4) (p f : Nat) (prev : Int → Option Int64) (acc : zq_Key → Nat → zq_CS) (ic : Int → Int) (ce kt : Int → Int64) (ky : Int → Int) (bf : Int → Int64) (hb : Int → Int), pts.drop p = rest → p + rest.length = pts.length → rest.length < f → zq_BR prev bf hb N → (∀ (r : Nat) (k : zq_Key) (v : Nat), ks[r]? = some k → v < W → zq_CR (zq_gy M ic ce kt ky bf hb) kd (M.m_starts P + r * W + v) ((r : Int) * 64 + v) (acc k v)) → ((kd = 5 ∨ kd = 6) → ∀ k v y, acc k v = some y → 0 ≤ y.2.2 ∧ y.2.2 < 256) →
    ∃ ic' ce' kt' ky' bf' hb', q_Mo_reckon_14 f (kd - 1) P p (zq_gy M ic ce kt ky bf hb) = mb2 (s_Mo_sweep (MS.w_m_pile (zq_gy M ic' ce' kt' ky' bf' hb') (M.m_pile + 1)) P) (fun r20 S20 => some ((), S20)) ∧ (∀ (r : Nat) (k : zq_Key) (v : Nat), ks[r]? = some k → v < W → zq_CR (zq_gy M ic' ce' kt' ky' bf' hb') kd (M.m_starts P + r * W + v) ((r : Int) * 64 + v) (((zq_annF prev rest).filter (zq_fits T lb fr wd W ns ms k v)).foldl (zq_cst kd) (acc k v))) ∧ (∀ j, (j < M.m_starts P ∨ M.m_starts P + ks.length * W ≤ j) → ic' j = ic j ∧ ce' j = ce j)
  | rest, p, 0, prev, acc, ic, ce, kt, ky, bf, hb => by omega
  | [], p, f + 1, prev, acc, ic, ce, kt, ky, bf, hb => by
    intro h1 h2 h3 h4 h5 h6
    have e1 : (zq_gy M ic ce kt ky bf hb).m_points = p := by
      have hl : (zq_mpts M).length = pts.length := by rw [hc.2.2.1.1]
      unfold zq_mpts at hl
      rw [zq_gsl_len] at hl
      have := hc.2.2.1.2.1.1
      simp at h2
      show M.m_points = p
      omega
    rw [q_Mo_reckon_14, e1, if_pos (Int.le_refl _)]
    exact ⟨ic, ce, kt, ky, bf, hb, rfl, fun r k v hk hv => h5 r k v hk hv, fun j _ => ⟨rfl, rfl⟩⟩
  | x :: rest, p, f + 1, prev, acc, ic, ce, kt, ky, bf, hb => by
    intro h1 h2 h3 h4 h5 h6
    have hW := hc.1
    have hN := hc.2.2.2.1.2
    have hpt := hc.2.2.1
    have hl : M.m_points.toNat = pts.length := by
      have hl : (zq_mpts M).length = pts.length := by rw [hpt.1]
      unfold zq_mpts at hl; rw [zq_gsl_len] at hl; exact hl
    have hp0 := hpt.2.1.1
    simp only [List.length_cons] at h2 h3
    have hx : pts[p]? = some x := by
      have : (pts.drop p)[0]? = some x := by rw [h1]; rfl
      rw [List.getElem?_drop] at this; simpa using this
    have hxm := hpt.2.2.2 x (List.mem_of_getElem? hx)
    have hpg : zq_pg4 M p = x := by
      have : (zq_mpts M)[p]? = some x := by rw [hpt.1]; exact hx
      unfold zq_mpts at this
      rw [zq_gsl_get _ _ _ _ (by omega)] at this
      rw [show (0 : Int) + (p : Int) = (p : Int) by omega] at this
      exact Option.some.inj this
    have x1 : M.m_pointSeries p = x.1 := by rw [← hpg]; rfl
    have x2 : M.m_pointTimes p = x.2.1 := by rw [← hpg]; rfl
    have x3 : M.m_pointValues p = x.2.2.1 := by rw [← hpg]; rfl
    have x4 : M.m_places p = x.2.2.2 := by rw [← hpg]; rfl
    have gp : (0 : Int) ≤ (p : Int) ∧ (p : Int) < 8192 := by have := hpt.2.2.1; omega
    have gs : (0 : Int) ≤ x.1 ∧ x.1 < 256 := by omega
    obtain ⟨si, hsi⟩ : ∃ si : Nat, x.1 = si := ⟨x.1.toNat, by omega⟩
    have hsiN : si < N := by omega
    have eseen : s_Mo_isSeen (zq_gy M ic ce kt ky bf hb) p = some (1, zq_gy M ic ce kt ky bf hb) := by
      rw [s_Mo_isSeen, if_pos gp]
      show (if 2 ≤ w32 (M.m_places p) then _ else _) = _
      rw [x4]
      rcases hxm.2.1 with z | z
      · rw [z, if_neg (by decide)]
      · rw [z, if_neg (by decide)]
    have edrop : pts.drop (p + 1) = rest := by rw [← List.drop_drop, h1]; rfl
    -- what is kept of the point for its series
    have tail : ∀ (ic1 : Int → Int) (ce1 kt1 : Int → Int64) (ky1 : Int → Int) (acc1 : zq_Key → Nat → zq_CS), (∀ (r : Nat) (k : zq_Key) (v : Nat), ks[r]? = some k → v < W → zq_CR (zq_gy M ic1 ce1 kt1 ky1 bf hb) kd (M.m_starts P + r * W + v) ((r : Int) * 64 + v) (acc1 k v)) → ((kd = 5 ∨ kd = 6) → ∀ k v y, acc1 k v = some y → 0 ≤ y.2.2 ∧ y.2.2 < 256) → (∀ j, (j < M.m_starts P ∨ M.m_starts P + ks.length * W ≤ j) → ic1 j = ic j ∧ ce1 j = ce j) → (∀ k v, acc1 k v = if zq_fits T lb fr wd W ns ms k v (x.1, x.2.1, x.2.2.1, prev x.1) then zq_cst kd (acc k v) (x.1, x.2.1, x.2.2.1, prev x.1) else acc k v) → ∃ ic' ce' kt' ky' bf' hb', q_Mo_reckon_114 (q_Mo_reckon_14 f) (kd - 1) P p x.1 (zq_gy M ic1 ce1 kt1 ky1 bf hb) = mb2 (s_Mo_sweep (MS.w_m_pile (zq_gy M ic' ce' kt' ky' bf' hb') (M.m_pile + 1)) P) (fun r20 S20 => some ((), S20)) ∧ (∀ (r : Nat) (k : zq_Key) (v : Nat), ks[r]? = some k → v < W → zq_CR (zq_gy M ic' ce' kt' ky' bf' hb') kd (M.m_starts P + r * W + v) ((r : Int) * 64 + v) (((zq_annF prev (x :: rest)).filter (zq_fits T lb fr wd W ns ms k v)).foldl (zq_cst kd) (acc k v))) ∧ (∀ j, (j < M.m_starts P ∨ M.m_starts P + ks.length * W ≤ j) → ic' j = ic j ∧ ce' j = ce j) := by
      intro ic1 ce1 kt1 ky1 acc1 a1 a2 a3 a4
      have step : q_Mo_reckon_114 (q_Mo_reckon_14 f) (kd - 1) P p x.1 (zq_gy M ic1 ce1 kt1 ky1 bf hb) = q_Mo_reckon_14 f (kd - 1) P ((p + 1 : Nat) : Int) (zq_gy M ic1 ce1 kt1 ky1 (aU bf x.1 x.2.2.1) (aU hb x.1 1)) := by
        rw [q_Mo_reckon_114, if_pos gp, if_pos gs, if_pos gs, q_Mo_reckon_136, show ((p + 1 : Nat) : Int) = (p : Int) + 1 by omega]
        show q_Mo_reckon_14 f (kd - 1) P ((p : Int) + 1) (zq_gy M ic1 ce1 kt1 ky1 (aU bf x.1 (M.m_pointValues p)) (aU hb x.1 1)) = _
        rw [x3]
      obtain ⟨ic', ce', kt', ky', bf', hb', i1, i2, i3⟩ := zq_E_reckon hc hP hk hR hsr hnd hro rest (p + 1) f (aU prev x.1 (some x.2.2.1)) acc1 ic1 ce1 kt1 ky1 (aU bf x.1 x.2.2.1) (aU hb x.1 1) edrop (by omega) (by omega) (by
        intro s s0 s1
        by_cases z : s = x.1
        · right; rw [z, zq_aU_at, zq_aU_at, zq_aU_at]; exact ⟨rfl, rfl⟩
        · rw [zq_aU_ne _ _ _ _ z, zq_aU_ne _ _ _ _ z, zq_aU_ne _ _ _ _ z]; exact h4 s s0 s1) (fun r k v hk' hv => a1 r k v hk' hv) a2
      refine ⟨ic', ce', kt', ky', bf', hb', step.trans i1, fun r k v hk' hv => ?_, fun j hj => ?_⟩
      · have := i2 r k v hk' hv
        rw [a4] at this
        show zq_CR _ _ _ _ ((((x.1, x.2.1, x.2.2.1, prev x.1) :: zq_annF (aU prev x.1 (some x.2.2.1)) rest).filter (zq_fits T lb fr wd W ns ms k v)).foldl (zq_cst kd) (acc k v))
        rw [List.filter_cons]
        by_cases z : zq_fits T lb fr wd W ns ms k v (x.1, x.2.1, x.2.2.1, prev x.1) = true
        · rw [if_pos z] at this ⊢; rw [List.foldl_cons]; exact this
        · rw [if_neg z] at this ⊢; exact this
      · have b1 := i3 j hj; have b2 := a3 j hj
        exact ⟨b1.1.trans b2.1, b1.2.trans b2.2⟩
    have skip : (∀ k v, zq_fits T lb fr wd W ns ms k v (x.1, x.2.1, x.2.2.1, prev x.1) = false) → ∃ ic' ce' kt' ky' bf' hb', q_Mo_reckon_114 (q_Mo_reckon_14 f) (kd - 1) P p x.1 (zq_gy M ic ce kt ky bf hb) = mb2 (s_Mo_sweep (MS.w_m_pile (zq_gy M ic' ce' kt' ky' bf' hb') (M.m_pile + 1)) P) (fun r20 S20 => some ((), S20)) ∧ (∀ (r : Nat) (k : zq_Key) (v : Nat), ks[r]? = some k → v < W → zq_CR (zq_gy M ic' ce' kt' ky' bf' hb') kd (M.m_starts P + r * W + v) ((r : Int) * 64 + v) (((zq_annF prev (x :: rest)).filter (zq_fits T lb fr wd W ns ms k v)).foldl (zq_cst kd) (acc k v))) ∧ (∀ j, (j < M.m_starts P ∨ M.m_starts P + ks.length * W ≤ j) → ic' j = ic j ∧ ce' j = ce j) := by
      intro hno
      exact tail ic ce kt ky acc h5 h6 (fun j _ => ⟨rfl, rfl⟩) (fun k v => by rw [if_neg (by rw [hno k v]; decide)])
    have e0 : q_Mo_reckon_14 (f + 1) (kd - 1) P p (zq_gy M ic ce kt ky bf hb) = if w32 (M.m_rowOf x.1) < 0 then q_Mo_reckon_114 (q_Mo_reckon_14 f) (kd - 1) P p x.1 (zq_gy M ic ce kt ky bf hb) else if (x.2.1 - fr).toInt < 0 then q_Mo_reckon_114 (q_Mo_reckon_14 f) (kd - 1) P p x.1 (zq_gy M ic ce kt ky bf hb) else if (W : Int) ≤ ((x.2.1 - fr) / wd).toInt then q_Mo_reckon_114 (q_Mo_reckon_14 f) (kd - 1) P p x.1 (zq_gy M ic ce kt ky bf hb) else mb2 (s_Mo_gather (zq_gy M ic ce kt ky bf hb) P (kd - 1) p (M.m_rowOf x.1) (((x.2.1 - fr) / wd).toInt)) (fun r32 S32 => q_Mo_reckon_114 (q_Mo_reckon_14 f) (kd - 1) P p x.1 S32) := by
      have ep : (zq_gy M ic ce kt ky bf hb).m_points = M.m_points := rfl
      have nw : ¬ M.m_width = 0 := by
        rw [hc.2.1.1]; intro z
        have := hc.2.1.2.2.1
        rw [z] at this; exact absurd this (by decide)
      have ew : (ll (w32 M.m_windows)).toInt = W := by
        rw [hW.1, zq_w32i (z := (W : Int)) (by omega) (by omega)]
        exact ll_toInt ⟨by omega, by omega⟩
      have hMp : M.m_points = (pts.length : Int) := by omega
      rw [q_Mo_reckon_14, ep, hMp, zq_w32i (z := ((pts.length : Nat) : Int)) (by omega) (by omega), zq_w32i (z := (p : Int)) (by omega) (by omega), if_neg (by omega), if_pos gp, zq_mb2_eq eseen, if_neg (by decide), if_pos gp]
      have y1 : (zq_gy M ic ce kt ky bf hb).m_pointSeries p = x.1 := x1
      have y2 : (zq_gy M ic ce kt ky bf hb).m_pointTimes p = x.2.1 := x2
      have y3 : (zq_gy M ic ce kt ky bf hb).m_windowsFrom = fr := hc.2.1.2.1
      have y4 : (zq_gy M ic ce kt ky bf hb).m_width = wd := hc.2.1.1
      have y5 : (zq_gy M ic ce kt ky bf hb).m_rowOf = M.m_rowOf := rfl
      have y6 : (ll (w32 (zq_gy M ic ce kt ky bf hb).m_windows)).toInt = W := ew
      have nw' : ¬ wd = 0 := by rw [← hc.2.1.1]; exact nw
      rw [y1, y2, y3, y4, y5, y6, if_pos gs, if_pos nw', if_pos gs, if_pos nw']
    rw [e0]
    have hfr := hc.2.1.2.2
    have esub := zq_sub_toInt (a := x.2.1) (b := fr) hxm.2.2 ⟨hfr.2.2.1, hfr.2.2.2⟩
    cases hm : zq_mAll T lb ms x.1 with
    | false =>
      have hr := (hro si hsiN).2 (by rw [← hsi]; exact hm)
      rw [← hsi] at hr
      rw [hr, if_pos (by decide)]
      exact skip (fun k v => by unfold zq_fits; rw [show zq_mAll T lb ms (x.1, x.2.1, x.2.2.1, prev x.1).1 = false from hm]; rfl)
    | true =>
      obtain ⟨r, r1, r2⟩ := (hro si hsiN).1 (by rw [← hsi]; exact hm)
      rw [← hsi] at r1 r2
      have hrl : r < ks.length := (List.getElem?_eq_some_iff.mp r2).1
      rw [r1, zq_w32i (z := (r : Int)) (by omega) (by omega), if_neg (by omega), esub]
      by_cases c1 : x.2.1.toInt - fr.toInt < 0
      · rw [if_pos c1]
        refine skip (fun k v => ?_)
        have : zq_winO fr wd W x.2.1 = none := by unfold zq_winO; rw [if_pos (by omega)]
        unfold zq_fits; show (_ && (zq_winO fr wd W x.2.1 == some v)) = false; rw [this]; simp
      · rw [if_neg c1]
        have ediv := zq_div_toInt (a := x.2.1 - fr) (b := wd) (by rw [esub]; omega) hfr.1
        rw [esub] at ediv
        have hq0 : 0 ≤ (x.2.1.toInt - fr.toInt) / wd.toInt := Int.ediv_nonneg (by omega) (by omega)
        rw [ediv]
        by_cases c2 : (W : Int) ≤ (x.2.1.toInt - fr.toInt) / wd.toInt
        · rw [if_pos c2]
          refine skip (fun k v => ?_)
          have : zq_winO fr wd W x.2.1 = none := by unfold zq_winO; rw [if_neg (by omega), if_neg (by omega)]
          unfold zq_fits; show (_ && (zq_winO fr wd W x.2.1 == some v)) = false; rw [this]; simp
        · rw [if_neg c2]
          obtain ⟨v5, hv5⟩ : ∃ v5 : Nat, (x.2.1.toInt - fr.toInt) / wd.toInt = v5 := ⟨((x.2.1.toInt - fr.toInt) / wd.toInt).toNat, by omega⟩
          rw [hv5] at c2 ⊢
          have hv5W : v5 < W := by omega
          have ewin : zq_winO fr wd W x.2.1 = some v5 := by unfold zq_winO; rw [if_neg (by omega), if_pos (by omega), hv5, Int.toNat_natCast]
          have hjl := zq_ix_lt (W := (W : Int)) (r := (r : Int)) (r' := (ks.length : Int)) (v := (v5 : Int)) (by omega) (by omega) (by omega)
          have hjg : 0 ≤ (r : Int) * W := Int.mul_nonneg (by omega) (by omega)
          obtain ⟨ic1, ce1, kt1, ky1, g1, g2, g3, g4⟩ := zq_r_gather (M := zq_gy M ic ce kt ky bf hb) hP hk (v := p) (r := r) (v5 := v5) (j := M.m_starts P + r * W + v5) gp (by omega) (by omega) (by show M.m_starts P + (r : Int) * M.m_windows + v5 = _; rw [hW.1]) (by omega) (s := x.1) ⟨x1, gs.1, gs.2⟩ (cs := acc (zq_keyOf T lb ns x.1) v5) (h5 r _ v5 r2 hv5W) (fun z y hy => h6 z _ _ y hy) (b := prev x.1) (h4 x.1 gs.1 hxm.1.2)
          rw [zq_mb2_eq g1]
          have x2' : (zq_gy M ic ce kt ky bf hb).m_pointTimes p = x.2.1 := x2
          have x3' : (zq_gy M ic ce kt ky bf hb).m_pointValues p = x.2.2.1 := x3
          rw [x2', x3'] at g2
          have hfit : ∀ k v, zq_fits T lb fr wd W ns ms k v (x.1, x.2.1, x.2.2.1, prev x.1) = true ↔ zq_keyOf T lb ns x.1 = k ∧ v5 = v := by
            intro k v
            unfold zq_fits
            show (zq_mAll T lb ms x.1 && (zq_keyOf T lb ns x.1 == k) && (zq_winO fr wd W x.2.1 == some v)) = true ↔ _
            rw [hm, ewin]; simp
          refine tail ic1 ce1 kt1 ky1 (fun k v => if zq_fits T lb fr wd W ns ms k v (x.1, x.2.1, x.2.2.1, prev x.1) then zq_cst kd (acc k v) (x.1, x.2.1, x.2.2.1, prev x.1) else acc k v) (fun r' k v hk' hv => ?_) (fun z k v y hy => ?_) (fun j hj => ?_) (fun k v => rfl)
          · have hr' : r' < ks.length := (List.getElem?_eq_some_iff.mp hk').1
            by_cases z : zq_fits T lb fr wd W ns ms k v (x.1, x.2.1, x.2.2.1, prev x.1) = true
            · show zq_CR _ _ _ _ (if _ then _ else _)
              rw [if_pos z]
              obtain ⟨z1, z2⟩ := (hfit k v).mp z
              have : r' = r := by
                rw [← z1] at hk'
                have a := List.getElem?_eq_some_iff.mp hk'
                have b := List.getElem?_eq_some_iff.mp r2
                exact (List.getElem_inj hnd).mp (a.2.trans b.2.symm)
              subst this; subst z2; rw [← z1]; exact g2
            · show zq_CR _ _ _ _ (if _ then _ else _)
              rw [if_neg z]
              have hne : r' ≠ r ∨ v ≠ v5 := by
                by_cases q1 : r' = r
                · right; intro q2
                  subst q1; subst q2
                  rw [r2] at hk'
                  exact z ((hfit k v).mpr ⟨Option.some.inj hk', rfl⟩)
                · exact Or.inl q1
              have n1 : M.m_starts P + (r' : Int) * W + v ≠ M.m_starts P + (r : Int) * W + v5 := by
                have := zq_ix_ne (W := (W : Int)) (r := (r' : Int)) (r' := (r : Int)) (v := (v : Int)) (v' := (v5 : Int)) (by omega) (by omega) (by omega)
                omega
              have n2 : (r' : Int) * 64 + v ≠ (r : Int) * 64 + v5 := by omega
              have hcr := h5 r' k v hk' hv
              obtain ⟨u1, u2⟩ := g3 _ n1
              obtain ⟨u3, u4⟩ := g4 _ n2
              unfold zq_CR at hcr ⊢
              cases hacc : acc k v with
              | none => rw [hacc] at hcr; exact ⟨u1.trans hcr.1, u2.trans hcr.2⟩
              | some y =>
                rw [hacc] at hcr
                refine ⟨u1.trans hcr.1, u2.trans hcr.2.1, fun q => ?_⟩
                have := hcr.2.2 q
                exact ⟨(congrArg Int64.toInt u3).trans this.1, u4.trans this.2⟩
          · have hy : (if zq_fits T lb fr wd W ns ms k v (x.1, x.2.1, x.2.2.1, prev x.1) then zq_cst kd (acc k v) (x.1, x.2.1, x.2.2.1, prev x.1) else acc k v) = some y := hy
            split at hy
            · exact zq_cst_R hN ⟨hxm.1.1, hxm.1.2⟩ (fun q y' hy' => h6 q k v y' hy') z y hy
            · exact h6 z k v y hy
          · exact g3 j (by omega)
end
set_option maxRecDepth 100000 in
def zq_cpA {α : Type} (f : Int → α) (d s k : Int) : Int → α := fun j => if d ≤ j ∧ j < d + k then f (j - d + s) else f j
set_option maxRecDepth 100000 in
theorem zq_cpA_0 {α : Type} (f : Int → α) (d s : Int) : zq_cpA f d s 0 = f := by funext j; unfold zq_cpA; rw [if_neg (by omega)]
set_option maxRecDepth 100000 in
theorem zq_cpA_st {α : Type} (f : Int → α) {d s k : Int} (h : d ≤ s) (hk : 0 ≤ k) : aU (zq_cpA f d s k) (d + k) (zq_cpA f d s k (s + k)) = zq_cpA f d s (k + 1) := by
  funext j; unfold aU zq_cpA
  by_cases c1 : j = d + k
  · rw [if_pos c1, if_neg (by omega), if_pos (by omega), c1, show d + k - d + s = s + k by omega]
  · rw [if_neg c1]
    by_cases c2 : d ≤ j ∧ j < d + k
    · rw [if_pos c2, if_pos (by omega)]
    · rw [if_neg c2, if_neg (by omega)]
set_option maxRecDepth 100000 in
/-- what a cell holds -/
def zq_cE (M : MS) (j : Int) (o : Option Int64) : Prop := match o with | none => M.m_isCell j = 0 | some x => M.m_isCell j = 1 ∧ M.m_cells j = x
set_option maxRecDepth 100000 in
theorem zq_cE_01 {M : MS} {j : Int} {o : Option Int64} (h : zq_cE M j o) : M.m_isCell j = 0 ∨ M.m_isCell j = 1 := by cases o with
  | none => exact Or.inl h
  | some x => exact Or.inr h.1
set_option maxRecDepth 100000 in
theorem zq_cE_0 {M : MS} {j : Int} {o : Option Int64} (h : zq_cE M j o) : M.m_isCell j = 0 ↔ o = none := by cases o with
  | none => exact ⟨fun _ => rfl, fun _ => h⟩
  | some x => exact ⟨fun z => by have := h.1; omega, fun z => by cases z⟩
set_option maxRecDepth 100000 in
/-- rows of a table by their keys -/
def zq_TR (M : MS) (P : Int) (W : Nat) (ks : List zq_Key) (g : zq_Tf) (sr : zq_Key → Int) : Prop := ∀ (r : Nat) (k : zq_Key), ks[r]? = some k → (∀ v : Nat, v < W → zq_cE M (M.m_starts P + r * W + v) (g k v)) ∧ M.m_rowSeries (256 * P + r) = sr k
set_option maxRecDepth 100000 in
def zq_neK (W : Nat) (g : zq_Tf) (k : zq_Key) : Bool := (List.range W).any (fun v => (g k v).isSome)
set_option maxRecDepth 100000 in
theorem zq_neK_iff {W : Nat} {g : zq_Tf} {k : zq_Key} : zq_neK W g k = true ↔ ∃ v, v < W ∧ g k v ≠ none := by
  unfold zq_neK
  rw [List.any_eq_true]
  constructor
  · rintro ⟨v, h1, h2⟩; exact ⟨v, List.mem_range.mp h1, fun z => by rw [z] at h2; cases h2⟩
  · rintro ⟨v, h1, h2⟩; refine ⟨v, List.mem_range.mpr h1, ?_⟩
    cases h : g k v with
    | none => exact absurd h h2
    | some x => rfl
set_option maxRecDepth 100000 in
def zq_sw (M : MS) (ic : Int → Int) (ce : Int → Int64) (rs : Int → Int) : MS := MS.w_m_rowSeries (zq_cw2 M ic ce) rs
set_option maxRecDepth 100000 in
theorem zq_E_s74 {M : MS} {P : Int} (hP : 0 ≤ P ∧ P < 20) {W : Nat} (hW : M.m_windows = W ∧ W ≤ 64) (K : Int → Int → Int → MS → Option (Unit × MS)) {r2 r3 : Nat} (hr : r2 ≤ r3 ∧ r3 < 256) (ic : Int → Int) (ce : Int → Int64) (rs : Int → Int) {d s : Int} (hd : M.m_starts P + r2 * W = d) (hs : M.m_starts P + r3 * W = s) (hds : 0 ≤ d ∧ d ≤ s ∧ s + W ≤ 327680) (h01 : ∀ v : Nat, v < W → ic (s + v) = 0 ∨ ic (s + v) = 1) : ∀ (m f v : Nat), v + m = W → m < f → q_Mo_sweep_74 K f P r2 r3 v (zq_sw M (zq_cpA ic d s v) (zq_cpA ce d s v) rs) = K P (r2 + 1) (r3 + 1) (zq_sw M (zq_cpA ic d s W) (zq_cpA ce d s W) (aU rs (256 * P + r2) (rs (256 * P + r3))))
  | m, 0, v => by omega
  | m, f + 1, v => by
    intro hm hf
    have e1 : (zq_sw M (zq_cpA ic d s v) (zq_cpA ce d s v) rs).m_windows = W := hW.1
    rw [q_Mo_sweep_74, e1, zq_w32i (z := (W : Int)) (by omega) (by omega), zq_w32i (z := (v : Int)) (by omega) (by omega)]
    cases m with
    | zero =>
      have hv : v = W := by omega
      subst hv
      rw [if_pos (Int.le_refl _), if_pos ⟨by omega, by omega⟩, if_pos ⟨by omega, by omega⟩, q_Mo_sweep_168]; rfl
    | succ m =>
      have c1 : ∀ S : MS, S.m_starts = M.m_starts → S.m_windows = W → s_Mo_cellAt S P r2 v = some (d + v, S) ∧ s_Mo_cellAt S P r3 v = some (s + v, S) := by
        intro S h1 h2
        constructor
        · rw [s_Mo_cellAt, if_pos ⟨by omega, by omega⟩, h1, h2, hd]
        · rw [s_Mo_cellAt, if_pos ⟨by omega, by omega⟩, h1, h2, hs]
      have a1 := c1 (zq_sw M (zq_cpA ic d s v) (zq_cpA ce d s v) rs) rfl hW.1
      have gs : (0 : Int) ≤ s + v ∧ s + (v : Int) < 327680 := by omega
      have gd : (0 : Int) ≤ d + v ∧ d + (v : Int) < 327680 := by omega
      have ev : (zq_sw M (zq_cpA ic d s v) (zq_cpA ce d s v) rs).m_isCell (s + v) = ic (s + v) := by
        show zq_cpA ic d s v (s + v) = _; unfold zq_cpA; rw [if_neg (by omega)]
      rw [if_neg (by omega), zq_mb2_eq a1.1, zq_mb2_eq a1.2, if_pos gs, if_pos gd, ev, if_pos (h01 v (by omega))]
      generalize hS2 : MS.w_m_isCell (zq_sw M (zq_cpA ic d s v) (zq_cpA ce d s v) rs) (aU (zq_sw M (zq_cpA ic d s v) (zq_cpA ce d s v) rs).m_isCell (d + v) (ic (s + v))) = S2
      have a2 := c1 S2 (by rw [← hS2]; rfl) (by rw [← hS2]; exact hW.1)
      rw [zq_mb2_eq a2.1, zq_mb2_eq a2.2, if_pos gs, if_pos gd]
      have ih := zq_E_s74 hP hW K hr ic ce rs hd hs hds h01 m f (v + 1) (by omega) (by omega)
      rw [show ((v + 1 : Nat) : Int) = (v : Int) + 1 by omega] at ih
      rw [← zq_cpA_st ic hds.2.1 (by omega), ← zq_cpA_st ce hds.2.1 (by omega)] at ih
      have e3 : zq_cpA ic d s v (s + v) = ic (s + v) := ev
      rw [e3] at ih
      rw [← hS2]
      exact ih
set_option maxRecDepth 100000 in
theorem zq_E_s20 {M : MS} {P : Int} (hP : 0 ≤ P ∧ P < 20) {W : Nat} (hW : M.m_windows = W ∧ W ≤ 64) (K : Int → Int → Int → MS → Option (Unit × MS)) (r2 : Int) {r3 : Nat} {s : Int} (hs : M.m_starts P + r3 * W = s) (hds : 0 ≤ s ∧ s + W ≤ 327680) {g : zq_Tf} {k : zq_Key} (hg : ∀ v : Nat, v < W → zq_cE M (s + v) (g k v)) : ∀ (m f v : Nat) (b : Prop) [Decidable b], v + m = W → m < f → ((b ∨ ∃ u, v ≤ u ∧ u < W ∧ g k u ≠ none) → q_Mo_sweep_20 K f P r2 r3 (zq_b01 b) v M = q_Mo_sweep_74 K fU P r2 r3 0 M) ∧ (¬ (b ∨ ∃ u, v ≤ u ∧ u < W ∧ g k u ≠ none) → q_Mo_sweep_20 K f P r2 r3 (zq_b01 b) v M = K P r2 (r3 + 1) M)
  | m, 0, v, b, _ => by omega
  | m, f + 1, v, b, _ => by
    intro hm hf
    rw [q_Mo_sweep_20, hW.1, zq_w32i (z := (W : Int)) (by omega) (by omega), zq_w32i (z := (v : Int)) (by omega) (by omega)]
    cases m with
    | zero =>
      rw [if_pos (by omega)]
      by_cases c : b
      · rw [if_neg (by rw [zq_b01_0]; simp [c])]; exact ⟨fun _ => rfl, fun z => absurd (Or.inl c) z⟩
      · rw [if_pos (by rw [zq_b01_0]; exact c)]
        refine ⟨fun z => ?_, fun _ => rfl⟩
        rcases z with z | ⟨u, z1, z2, z3⟩
        · exact absurd z c
        · omega
    | succ m =>
      rw [if_neg (by omega)]
      have nx : ∀ (b' : Prop) [Decidable b'], (b' ↔ (b ∨ g k v ≠ none)) → ((b ∨ ∃ u, v ≤ u ∧ u < W ∧ g k u ≠ none) → q_Mo_sweep_55 K (q_Mo_sweep_20 K f) P r2 r3 v (zq_b01 b') M = q_Mo_sweep_74 K fU P r2 r3 0 M) ∧ (¬ (b ∨ ∃ u, v ≤ u ∧ u < W ∧ g k u ≠ none) → q_Mo_sweep_55 K (q_Mo_sweep_20 K f) P r2 r3 v (zq_b01 b') M = K P r2 (r3 + 1) M) := by
        intro b' _ hb'
        rw [q_Mo_sweep_55]
        have ih := zq_E_s20 hP hW K r2 hs hds hg m f (v + 1) b' (by omega) (by omega)
        rw [show ((v + 1 : Nat) : Int) = (v : Int) + 1 by omega] at ih
        have hiff : (b' ∨ ∃ u, v + 1 ≤ u ∧ u < W ∧ g k u ≠ none) ↔ (b ∨ ∃ u, v ≤ u ∧ u < W ∧ g k u ≠ none) := by
          rw [hb']
          constructor
          · rintro ((z | z) | ⟨u, z1, z2, z3⟩)
            · exact Or.inl z
            · exact Or.inr ⟨v, by omega, by omega, z⟩
            · exact Or.inr ⟨u, by omega, z2, z3⟩
          · rintro (z | ⟨u, z1, z2, z3⟩)
            · exact Or.inl (Or.inl z)
            · by_cases q : u = v
              · subst q; exact Or.inl (Or.inr z3)
              · exact Or.inr ⟨u, by omega, z2, z3⟩
        exact ⟨fun z => ih.1 (hiff.mpr z), fun z => ih.2 (fun q => z (hiff.mp q))⟩
      by_cases c : b
      · rw [if_neg (by rw [zq_b01_0]; simp [c]), q_Mo_sweep_50]
        have := nx True ⟨fun _ => Or.inl c, fun _ => trivial⟩
        rw [zq_b01_T] at this
        exact this
      · have hcv := hg v (by omega)
        have h01 := zq_cE_01 hcv
        rw [if_pos (by rw [zq_b01_0]; exact c), s_Mo_cellAt, if_pos ⟨by omega, by omega⟩, hW.1, hs]
        rw [zq_mb2_eq rfl, if_pos ⟨by omega, by omega⟩, zq_w32i (z := M.m_isCell (s + v)) (by omega) (by omega)]
        by_cases c2 : M.m_isCell (s + v) = 0
        · rw [if_pos c2]
          have := nx False ⟨fun z => z.elim, fun z => z.elim c (fun q => q ((zq_cE_0 hcv).mp c2))⟩
          rw [zq_b01_F] at this
          exact this
        · rw [if_neg c2, q_Mo_sweep_50]
          have := nx True ⟨fun _ => Or.inr (fun q => c2 ((zq_cE_0 hcv).mpr q)), fun _ => trivial⟩
          rw [zq_b01_T] at this
          exact this
set_option maxRecDepth 100000 in
/-- empty rows go -/
theorem zq_E_s4 {M : MS} {P : Int} (hP : 0 ≤ P ∧ P < 20) {W : Nat} (hW : M.m_windows = W ∧ 1 ≤ W ∧ W ≤ 64) {ks : List zq_Key} {g : zq_Tf} {sr : zq_Key → Int} (hR : M.m_tableRows P = ks.length ∧ ks.length ≤ 256) (hst : 0 ≤ M.m_starts P ∧ M.m_starts P + ks.length * W ≤ 327680) : ∀ (rest : List zq_Key) (r3 f : Nat) (kept : List zq_Key) (ic : Int → Int) (ce : Int → Int64) (rs : Int → Int), ks.drop r3 = rest → r3 + rest.length = ks.length → kept.length ≤ r3 → rest.length < f →
    (∀ (r : Nat) (k : zq_Key), kept[r]? = some k → (∀ v : Nat, v < W → zq_cE (zq_sw M ic ce rs) (M.m_starts P + r * W + v) (g k v)) ∧ rs (256 * P + r) = sr k) → (∀ (r : Nat) (k : zq_Key), r3 ≤ r → ks[r]? = some k → (∀ v : Nat, v < W → zq_cE (zq_sw M ic ce rs) (M.m_starts P + r * W + v) (g k v)) ∧ rs (256 * P + r) = sr k) →
    ∃ ic' ce' rs', q_Mo_sweep_4 f P kept.length r3 (zq_sw M ic ce rs) = some ((), MS.w_m_starts (MS.w_m_tableRows (zq_sw M ic' ce' rs') (aU M.m_tableRows P ((kept ++ rest.filter (zq_neK W g)).length : Int))) (aU M.m_starts (P + 1) (M.m_starts P + ((kept ++ rest.filter (zq_neK W g)).length : Int) * W))) ∧ (∀ (r : Nat) (k : zq_Key), (kept ++ rest.filter (zq_neK W g))[r]? = some k → (∀ v : Nat, v < W → zq_cE (zq_sw M ic' ce' rs') (M.m_starts P + r * W + v) (g k v)) ∧ rs' (256 * P + r) = sr k) ∧ (∀ j, (j < M.m_starts P ∨ M.m_starts P + ks.length * W ≤ j) → ic' j = ic j ∧ ce' j = ce j) ∧ (∀ j, (j < 256 * P ∨ 256 * P + 256 ≤ j) → rs' j = rs j)
  | rest, r3, 0, kept, ic, ce, rs => by omega
  | [], r3, f + 1, kept, ic, ce, rs => by
    intro h1 h2 h3 h4 h5 h6
    simp only [List.length_nil, Nat.add_zero] at h2
    have e1 : (zq_sw M ic ce rs).m_tableRows P = ks.length := hR.1
    refine ⟨ic, ce, rs, ?_, ?_, fun _ _ => ⟨rfl, rfl⟩, fun _ _ => rfl⟩
    · rw [q_Mo_sweep_4, if_pos hP, e1, if_pos (by rw [h2]; exact Int.le_refl _), if_pos hP, if_pos ⟨by omega, by omega⟩, if_pos ⟨by omega, by omega⟩]
      rw [List.filter_nil, List.append_nil, ← hW.1]; rfl
    · rw [List.filter_nil, List.append_nil]; exact h5
  | k :: rest, r3, f + 1, kept, ic, ce, rs => by
    intro h1 h2 h3 h4 h5 h6
    simp only [List.length_cons] at h2 h4
    have hk : ks[r3]? = some k := by
      have : (ks.drop r3)[0]? = some k := by rw [h1]; rfl
      rw [List.getElem?_drop] at this; simpa using this
    have edrop : ks.drop (r3 + 1) = rest := by rw [← List.drop_drop, h1]; rfl
    have e1 : (zq_sw M ic ce rs).m_tableRows P = ks.length := hR.1
    have hrow := h6 r3 k (Nat.le_refl _) hk
    have hub : (r3 : Int) * W + W ≤ ks.length * W := by
      have : ((r3 : Int) + 1) * W ≤ ks.length * W := Int.mul_le_mul_of_nonneg_right (by omega) (by omega)
      rw [Int.add_mul] at this; omega
    have hnn : 0 ≤ (r3 : Int) * W := Int.mul_nonneg (by omega) (by omega)
    have hnk : 0 ≤ (kept.length : Int) * W := Int.mul_nonneg (by omega) (by omega)
    have hkr : (kept.length : Int) * W ≤ r3 * W := Int.mul_le_mul_of_nonneg_right (by omega) (by omega)
    have s20 := zq_E_s20 (M := zq_sw M ic ce rs) hP ⟨hW.1, hW.2.2⟩ (q_Mo_sweep_4 f) (kept.length : Int) (r3 := r3) (s := M.m_starts P + r3 * W) rfl (by omega) hrow.1 W fU 0 False (by omega) (zq_fU_gt (by omega))
    rw [zq_b01_F, show ((0 : Nat) : Int) = 0 from rfl] at s20
    rw [q_Mo_sweep_4, if_pos hP, e1, zq_w32i (z := (ks.length : Int)) (by omega) (by omega), zq_w32i (z := (r3 : Int)) (by omega) (by omega), if_neg (by omega)]
    by_cases c : zq_neK W g k = true
    · obtain ⟨v0, v1, v2⟩ := zq_neK_iff.mp c
      rw [s20.1 (Or.inr ⟨v0, by omega, v1, v2⟩), List.filter_cons_of_pos c]
      have h01 : ∀ v : Nat, v < W → ic (M.m_starts P + r3 * W + v) = 0 ∨ ic (M.m_starts P + r3 * W + v) = 1 := fun v hv => zq_cE_01 (hrow.1 v hv)
      have s74 := zq_E_s74 (M := M) hP ⟨hW.1, hW.2.2⟩ (q_Mo_sweep_4 f) (r2 := kept.length) (r3 := r3) (by omega) ic ce rs (d := M.m_starts P + kept.length * W) (s := M.m_starts P + r3 * W) rfl rfl (by omega) h01 W fU 0 (by omega) (zq_fU_gt (by omega))
      rw [show ((0 : Nat) : Int) = 0 from rfl, zq_cpA_0, zq_cpA_0] at s74
      rw [s74]
      generalize hic : zq_cpA ic (M.m_starts P + kept.length * W) (M.m_starts P + r3 * W) W = ic1
      generalize hce : zq_cpA ce (M.m_starts P + kept.length * W) (M.m_starts P + r3 * W) W = ce1
      have out : ∀ j, (j < M.m_starts P + kept.length * W ∨ M.m_starts P + kept.length * W + W ≤ j) → ic1 j = ic j ∧ ce1 j = ce j := fun j hj => by
        rw [← hic, ← hce]; unfold zq_cpA; rw [if_neg (by omega), if_neg (by omega)]; exact ⟨rfl, rfl⟩
      have inn : ∀ v : Nat, v < W → ic1 (M.m_starts P + kept.length * W + v) = ic (M.m_starts P + r3 * W + v) ∧ ce1 (M.m_starts P + kept.length * W + v) = ce (M.m_starts P + r3 * W + v) := fun v hv => by
        rw [← hic, ← hce]; unfold zq_cpA; rw [if_pos (by omega), if_pos (by omega), show M.m_starts P + (kept.length : Int) * W + v - (M.m_starts P + kept.length * W) + (M.m_starts P + r3 * W) = M.m_starts P + r3 * W + v by omega]; exact ⟨rfl, rfl⟩
      have mv : ∀ j j' o, ic1 j = ic j' → ce1 j = ce j' → zq_cE (zq_sw M ic ce rs) j' o → ∀ rs', zq_cE (zq_sw M ic1 ce1 rs') j o := by
        intro j j' o q1 q2 q3 rs'
        cases o with
        | none => exact q1.trans q3
        | some x => exact ⟨q1.trans q3.1, q2.trans q3.2⟩
      obtain ⟨ic', ce', rs', i1, i2, i3, i4⟩ := zq_E_s4 hP hW hR hst rest (r3 + 1) f (kept ++ [k]) ic1 ce1 (aU rs (256 * P + kept.length) (rs (256 * P + r3))) edrop (by omega) (by simp; omega) (by omega) (fun r k' hk' => by
        by_cases z : r < kept.length
        · rw [List.getElem?_append_left z] at hk'
          have q := h5 r k' hk'
          refine ⟨fun v hv => ?_, by rw [zq_aU_ne _ _ _ _ (by omega)]; exact q.2⟩
          have hlt := zq_ix_lt (W := (W : Int)) (r := (r : Int)) (r' := (kept.length : Int)) (v := (v : Int)) (by omega) (by omega) (by omega)
          have o := out (M.m_starts P + r * W + v) (by omega)
          exact mv _ _ _ o.1 o.2 (q.1 v hv) _
        · have hl : r < (kept ++ [k]).length := (List.getElem?_eq_some_iff.mp hk').1
          simp at hl
          have : r = kept.length := by omega
          subst this
          rw [List.getElem?_append_right (Nat.le_refl _), Nat.sub_self] at hk'
          simp at hk'; subst hk'
          refine ⟨fun v hv => mv _ _ _ (inn v hv).1 (inn v hv).2 (hrow.1 v hv) _, by rw [zq_aU_at]; exact hrow.2⟩) (fun r k' hr hk' => by
          have q := h6 r k' (by omega) hk'
          have hrl : r < ks.length := (List.getElem?_eq_some_iff.mp hk').1
          refine ⟨fun v hv => ?_, by rw [zq_aU_ne _ _ _ _ (by omega)]; exact q.2⟩
          have hge : (r3 : Int) * W + W ≤ r * W := by
            have : ((r3 : Int) + 1) * W ≤ r * W := Int.mul_le_mul_of_nonneg_right (by omega) (by omega)
            rw [Int.add_mul] at this; omega
          have o := out (M.m_starts P + r * W + v) (by omega)
          exact mv _ _ _ o.1 o.2 (q.1 v hv) _)
      have ek : kept ++ k :: rest.filter (zq_neK W g) = kept ++ [k] ++ rest.filter (zq_neK W g) := by simp
      rw [ek]
      rw [show (((kept ++ [k]).length : Nat) : Int) = (kept.length : Int) + 1 by simp, show ((r3 + 1 : Nat) : Int) = (r3 : Int) + 1 by omega] at i1
      refine ⟨ic', ce', rs', i1, i2, fun j hj => ?_, fun j hj => ?_⟩
      · have o := out j (by omega)
        exact ⟨(i3 j hj).1.trans o.1, (i3 j hj).2.trans o.2⟩
      · rw [i4 j hj, zq_aU_ne _ _ _ _ (by omega)]
    · rw [s20.2 (by rintro (z | ⟨u, z1, z2, z3⟩); exact z; exact c (zq_neK_iff.mpr ⟨u, z2, z3⟩)), List.filter_cons_of_neg c]
      obtain ⟨ic', ce', rs', i1, i2, i3, i4⟩ := zq_E_s4 hP hW hR hst rest (r3 + 1) f kept ic ce rs edrop (by omega) (by omega) (by omega) h5 (fun r k' hr hk' => h6 r k' (by omega) hk')
      rw [show ((r3 + 1 : Nat) : Int) = (r3 : Int) + 1 by omega] at i1
      exact ⟨ic', ce', rs', i1, i2, i3, i4⟩
set_option maxRecDepth 100000 in
theorem zq_r_sweep {M : MS} {P : Int} (hP : 0 ≤ P ∧ P < 20) {W : Nat} (hW : M.m_windows = W ∧ 1 ≤ W ∧ W ≤ 64) {ks : List zq_Key} {g : zq_Tf} {sr : zq_Key → Int} (hR : M.m_tableRows P = ks.length ∧ ks.length ≤ 256) (hst : 0 ≤ M.m_starts P ∧ M.m_starts P + ks.length * W ≤ 327680) (ht : zq_TR M P W ks g sr) : ∃ ic ce rs, s_Mo_sweep M P = some ((), MS.w_m_starts (MS.w_m_tableRows (zq_sw M ic ce rs) (aU M.m_tableRows P ((ks.filter (zq_neK W g)).length : Int))) (aU M.m_starts (P + 1) (M.m_starts P + ((ks.filter (zq_neK W g)).length : Int) * W))) ∧ (∀ (r : Nat) (k : zq_Key), (ks.filter (zq_neK W g))[r]? = some k → (∀ v : Nat, v < W → zq_cE (zq_sw M ic ce rs) (M.m_starts P + r * W + v) (g k v)) ∧ rs (256 * P + r) = sr k) ∧ (∀ j, (j < M.m_starts P ∨ M.m_starts P + ks.length * W ≤ j) → ic j = M.m_isCell j ∧ ce j = M.m_cells j) ∧ (∀ j, (j < 256 * P ∨ 256 * P + 256 ≤ j) → rs j = M.m_rowSeries j) := by
  have := zq_E_s4 hP hW hR hst ks 0 fU [] M.m_isCell M.m_cells M.m_rowSeries (by simp) (by simp) (by simp) (zq_fU_gt (by omega)) (fun r k hk => by simp at hk) (fun r k _ hk => ht r k hk)
  rw [List.nil_append] at this
  exact this
section
variable {T : Int → Int} {n w : Int} {lb : Nat → zq_LB} {N : Nat} {pts : List zq_P4} {fr wd : Int64} {W : Nat}
set_option maxRecDepth 100000 in
/-- a table of the reference -/
def zq_TbR (T : Int → Int) (n : Int) (lb : Nat → zq_LB) (N W : Nat) (M : MS) (P : Int) (t : zq_Tbl) : Prop := zq_NX M P t.1 ∧ zq_okN n t.1 ∧ ∃ (ks : List zq_Key) (sr : zq_Key → Int), (M.m_tableRows P = ks.length ∧ ks.length ≤ 256) ∧ ks.Pairwise zq_klt ∧ (∀ k ∈ ks, k.length = t.1.length) ∧ zq_TR M P W ks t.2 sr ∧ (∀ k, k ∈ ks ↔ ∃ v, v < W ∧ t.2 k v ≠ none) ∧ (t.1 ≠ [] → ∀ k ∈ ks, ∃ i : Nat, i < N ∧ sr k = i ∧ zq_keyOf T lb t.1 i = k)
set_option maxRecDepth 100000 in
def zq_JR (T : Int → Int) (n : Int) (lb : Nat → zq_LB) (N : Nat) (pts : List zq_P4) (fr wd : Int64) (W : Nat) (M : MS) (st : List zq_Tbl) : Prop := zq_CX lb N pts fr wd W M ∧ M.m_pile = st.length ∧ M.m_starts 0 = 0 ∧ ∀ (pre : List zq_Tbl) (t : zq_Tbl) (post : List zq_Tbl), st = pre ++ t :: post → zq_TbR T n lb N W M post.length t ∧ M.m_starts (post.length + 1) = M.m_starts post.length + M.m_tableRows post.length * W
set_option maxRecDepth 100000 in
theorem zq_cE_c {M M' : MS} {j : Int} {o : Option Int64} (h : zq_cE M j o) (h1 : M'.m_isCell j = M.m_isCell j) (h2 : M'.m_cells j = M.m_cells j) : zq_cE M' j o := by cases o with
  | none => exact h1.trans h
  | some x => exact ⟨h1.trans h.1, h2.trans h.2⟩
set_option maxRecDepth 100000 in
theorem zq_TbR_fr {M M' : MS} {P : Int} {t : zq_Tbl} (h : zq_TbR T n lb N W M P t) (e1 : M'.m_tableNames P = M.m_tableNames P) (e2 : ∀ j, 6 * P ≤ j → j < 6 * P + 6 → M'.m_nameFroms j = M.m_nameFroms j ∧ M'.m_nameLengths j = M.m_nameLengths j) (e3 : M'.m_tableRows P = M.m_tableRows P) (e4 : M'.m_starts P = M.m_starts P) (e5 : ∀ j, 256 * P ≤ j → j < 256 * P + 256 → M'.m_rowSeries j = M.m_rowSeries j) (e6 : ∀ j, M.m_starts P ≤ j → j < M.m_starts P + M.m_tableRows P * W → M'.m_isCell j = M.m_isCell j ∧ M'.m_cells j = M.m_cells j) : zq_TbR T n lb N W M' P t := by
  obtain ⟨h1, h2, ks, sr, h3, h4, h5, h6, h7, h8⟩ := h
  refine ⟨⟨by rw [e1]; exact h1.1, fun i x hx => ?_⟩, h2, ks, sr, by rw [e3]; exact h3, h4, h5, fun r k hk => ?_, h7, h8⟩
  · have hi : i < t.1.length := (List.getElem?_eq_some_iff.mp hx).1
    have := h2.2
    have q := e2 (6 * P + i) (by omega) (by omega)
    rw [q.1, q.2]; exact h1.2 i x hx
  · have hr : r < ks.length := (List.getElem?_eq_some_iff.mp hk).1
    obtain ⟨q1, q2⟩ := h6 r k hk
    refine ⟨fun v hv => ?_, by rw [e5 _ (by omega) (by omega)]; exact q2⟩
    have hlt := zq_ix_lt (W := (W : Int)) (r := (r : Int)) (r' := (ks.length : Int)) (v := (v : Int)) (by omega) (by omega) (by omega)
    have hnn : 0 ≤ (r : Int) * W := Int.mul_nonneg (by omega) (by omega)
    rw [e4]
    have q := e6 (M.m_starts P + r * W + v) (by omega) (by rw [h3.1]; omega)
    exact zq_cE_c (q1 v hv) q.1 q.2
set_option maxRecDepth 100000 in
/-- where tables start -/
theorem zq_J_st {M : MS} {st : List zq_Tbl} (h : zq_JR T n lb N pts fr wd W M st) : ∀ P : Nat, P ≤ st.length → 0 ≤ M.m_starts P ∧ M.m_starts P ≤ 16384 * P
  | 0, _ => by have := h.2.2.1; rw [show ((0 : Nat) : Int) = 0 from rfl, this]; omega
  | P + 1, hP => by
    have ih := zq_J_st h P (by omega)
    have hlt : st.length - 1 - P < st.length := by omega
    have e : st = st.take (st.length - 1 - P) ++ st[st.length - 1 - P]'hlt :: st.drop (st.length - P) := by
      have := List.take_append_drop (st.length - 1 - P) st
      rw [List.drop_eq_getElem_cons hlt, show st.length - 1 - P + 1 = st.length - P by omega] at this
      exact this.symm
    have hl : (st.drop (st.length - P)).length = P := by simp; omega
    have q := h.2.2.2 _ _ _ e
    rw [hl] at q
    obtain ⟨⟨-, -, ks, sr, h3, -⟩, q2⟩ := q
    have hW := h.1.1
    have b1 : 0 ≤ M.m_tableRows P * (W : Int) := by rw [h3.1]; exact Int.mul_nonneg (by omega) (by omega)
    have b2 : M.m_tableRows P * (W : Int) ≤ 256 * 64 := by
      rw [h3.1]
      have := Int.mul_le_mul_of_nonneg_right (a := (ks.length : Int)) (b := 256) (c := (W : Int)) (by omega) (by omega)
      omega
    rw [show ((P + 1 : Nat) : Int) = (P : Int) + 1 by omega, q2]; omega
set_option maxRecDepth 100000 in
/-- lower tables end before higher ones start -/
theorem zq_J_le {M : MS} {st : List zq_Tbl} (h : zq_JR T n lb N pts fr wd W M st) : ∀ (d P : Nat), P + d < st.length → M.m_starts P + M.m_tableRows P * W ≤ M.m_starts (P + d + 1 : Nat)
  | 0, P => by
    intro hP
    have hlt : st.length - 1 - P < st.length := by omega
    have e : st = st.take (st.length - 1 - P) ++ st[st.length - 1 - P]'hlt :: st.drop (st.length - P) := by
      have := List.take_append_drop (st.length - 1 - P) st
      rw [List.drop_eq_getElem_cons hlt, show st.length - 1 - P + 1 = st.length - P by omega] at this
      exact this.symm
    have hl : (st.drop (st.length - P)).length = P := by simp; omega
    have q := h.2.2.2 _ _ _ e
    rw [hl] at q
    rw [show ((P + 0 + 1 : Nat) : Int) = (P : Int) + 1 by omega, q.2]; exact Int.le_refl _
  | d + 1, P => by
    intro hP
    have ih := zq_J_le h d P (by omega)
    have s := zq_J_le h 0 (P + d + 1) (by omega)
    have hlt : st.length - 1 - (P + d + 1) < st.length := by omega
    have e : st = st.take (st.length - 1 - (P + d + 1)) ++ st[st.length - 1 - (P + d + 1)]'hlt :: st.drop (st.length - (P + d + 1)) := by
      have := List.take_append_drop (st.length - 1 - (P + d + 1)) st
      rw [List.drop_eq_getElem_cons hlt, show st.length - 1 - (P + d + 1) + 1 = st.length - (P + d + 1) by omega] at this
      exact this.symm
    have hl : (st.drop (st.length - (P + d + 1))).length = P + d + 1 := by simp; omega
    have q := h.2.2.2 _ _ _ e
    rw [hl] at q
    obtain ⟨⟨-, -, ks, sr, h3, -⟩, -⟩ := q
    have b1 : 0 ≤ M.m_tableRows ((P + d + 1 : Nat) : Int) * (W : Int) := by rw [h3.1]; exact Int.mul_nonneg (by omega) (by omega)
    rw [show P + (d + 1) + 1 = P + d + 1 + 0 + 1 by omega]
    omega
set_option maxRecDepth 100000 in
/-- a new table comes on top -/
theorem zq_J_push {M M' : MS} {st : List zq_Tbl} {t : zq_Tbl} (h : zq_JR T n lb N pts fr wd W M st) (hk : zq_KF M M') (h1 : M'.m_pile = st.length + 1) (e0 : ∀ j, j ≤ (st.length : Int) → M'.m_starts j = M.m_starts j) (e1 : ∀ j, j < (st.length : Int) → M'.m_tableNames j = M.m_tableNames j ∧ M'.m_tableRows j = M.m_tableRows j) (e2 : ∀ j, j < 6 * (st.length : Int) → M'.m_nameFroms j = M.m_nameFroms j ∧ M'.m_nameLengths j = M.m_nameLengths j) (e5 : ∀ j, j < 256 * (st.length : Int) → M'.m_rowSeries j = M.m_rowSeries j) (e6 : ∀ j, j < M.m_starts st.length → M'.m_isCell j = M.m_isCell j ∧ M'.m_cells j = M.m_cells j) (ht : zq_TbR T n lb N W M' st.length t) (hs : M'.m_starts ((st.length : Int) + 1) = M'.m_starts st.length + M'.m_tableRows st.length * W) : zq_JR T n lb N pts fr wd W M' (t :: st) := by
  refine ⟨zq_CX_KF h.1 hk, by rw [h1]; simp, by rw [e0 0 (by omega)]; exact h.2.2.1, fun pre u post he => ?_⟩
  cases pre with
  | nil => injection he with he1 he2; subst he1; subst he2; exact ⟨ht, hs⟩
  | cons z pre =>
    injection he with he1 he2
    obtain ⟨q1, q2⟩ := h.2.2.2 pre u post he2
    have hl : post.length < st.length := by rw [he2]; simp; omega
    have hle := zq_J_le h (st.length - 1 - post.length) post.length (by omega)
    rw [show post.length + (st.length - 1 - post.length) + 1 = st.length by omega] at hle
    refine ⟨zq_TbR_fr q1 (e1 _ (by omega)).1 (fun j j1 j2 => e2 j (by omega)) (e1 _ (by omega)).2 (e0 _ (by omega)) (fun j j1 j2 => e5 j (by omega)) (fun j j1 j2 => e6 j (by omega)), ?_⟩
    rw [e0 _ (by omega), e0 _ (by omega), (e1 _ (by omega)).2]; exact q2
set_option maxRecDepth 100000 in
theorem zq_E_num36 {M : MS} (hW : M.m_windows = W ∧ W ≤ 64) {P : Int} (hP : M.m_pile = P ∧ 0 ≤ P ∧ P < 20) (hst : 0 ≤ M.m_starts P ∧ M.m_starts P + W ≤ 327680) : ∀ (m f v : Nat) (ic : Int → Int) (ce : Int → Int64), v + m = W → m < f → ∃ ic' ce', q_Mo_number_36 f v (zq_cw2 M ic ce) = some ((), MS.w_m_starts (MS.w_m_pile (zq_cw2 M ic' ce') (P + 1)) (aU M.m_starts (P + 1) (M.m_starts P + W))) ∧ (∀ j, M.m_starts P + v ≤ j → j < M.m_starts P + W → ic' j = 1 ∧ ce' j = M.m_amount) ∧ (∀ j, (j < M.m_starts P + v ∨ M.m_starts P + W ≤ j) → ic' j = ic j ∧ ce' j = ce j)
  | m, 0, v, ic, ce => by omega
  | m, f + 1, v, ic, ce => by
    intro hm hf
    have e1 : (zq_cw2 M ic ce).m_windows = W := hW.1
    have e2 : (zq_cw2 M ic ce).m_pile = P := hP.1
    rw [q_Mo_number_36, e1, e2, zq_w32i (z := (W : Int)) (by omega) (by omega), zq_w32i (z := (v : Int)) (by omega) (by omega)]
    cases m with
    | zero =>
      rw [if_pos (by omega), if_pos ⟨by omega, by omega⟩, if_pos ⟨by omega, by omega⟩]
      refine ⟨ic, ce, ?_, fun j h1 h2 => by omega, fun j _ => ⟨rfl, rfl⟩⟩
      rw [show P + 1 - 1 = P by omega]; rfl
    | succ m =>
      have cA : ∀ S : MS, S.m_starts = M.m_starts → S.m_windows = W → s_Mo_cellAt S P 0 v = some (M.m_starts P + v, S) := by
        intro S h1 h2
        rw [s_Mo_cellAt, if_pos ⟨by omega, by omega⟩, h1, h2]; simp
      have g : (0 : Int) ≤ M.m_starts P + v ∧ M.m_starts P + (v : Int) < 327680 := by omega
      rw [if_neg (by omega), zq_mb2_eq (cA (zq_cw2 M ic ce) rfl hW.1), if_pos g, e2]
      have e3 := cA (MS.w_m_isCell (zq_cw2 M ic ce) (aU (zq_cw2 M ic ce).m_isCell (M.m_starts P + v) 1)) rfl hW.1
      rw [zq_mb2_eq e3, if_pos g]
      obtain ⟨ic', ce', a1, a2, a3⟩ := zq_E_num36 hW hP hst m f (v + 1) (aU ic (M.m_starts P + v) 1) (aU ce (M.m_starts P + v) M.m_amount) (by omega) (by omega)
      rw [show ((v + 1 : Nat) : Int) = (v : Int) + 1 by omega] at a1 a2 a3
      refine ⟨ic', ce', a1, fun j h1 h2 => ?_, fun j hj => ?_⟩
      · by_cases z : j = M.m_starts P + v
        · have := a3 j (by omega)
          rw [this.1, this.2, z, zq_aU_at, zq_aU_at]; exact ⟨rfl, rfl⟩
        · exact a2 j (by omega) h2
      · have := a3 j (by omega)
        rw [this.1, this.2, zq_aU_ne _ _ _ _ (by omega), zq_aU_ne _ _ _ _ (by omega)]; exact ⟨rfl, rfl⟩
set_option maxRecDepth 100000 in
theorem zq_r_number {M : MS} {st : List zq_Tbl} (h : zq_JR T n lb N pts fr wd W M st) (hh : st.length ≤ 18) (hn0 : 0 ≤ n) : ∃ M', s_Mo_number M = some ((), M') ∧ zq_JR T n lb N pts fr wd W M' (([], fun k v => if k = [] ∧ v < W then some M.m_amount else none) :: st) ∧ zq_AF M M' := by
  have hp := h.2.1
  have hW := h.1.1
  have hs := zq_J_st h st.length (Nat.le_refl _)
  generalize hM1 : MS.w_m_rowSeries (MS.w_m_tableRows (MS.w_m_tableNames M (aU M.m_tableNames M.m_pile 0)) (aU M.m_tableRows M.m_pile 1)) (aU M.m_rowSeries (256 * M.m_pile) 0) = M1
  have e1 : M1.m_windows = W ∧ W ≤ 64 := by rw [← hM1]; exact ⟨hW.1, hW.2.2⟩
  have e2 : M1.m_pile = (st.length : Int) ∧ (0 : Int) ≤ st.length ∧ (st.length : Int) < 20 := by rw [← hM1]; exact ⟨hp, by omega, by omega⟩
  have e3 : M1.m_starts = M.m_starts := by rw [← hM1]
  obtain ⟨ic, ce, a1, a2, a3⟩ := zq_E_num36 e1 e2 (by rw [e3]; omega) W fU 0 M1.m_isCell M1.m_cells (by omega) (zq_fU_gt (by omega))
  rw [show ((0 : Nat) : Int) = 0 from rfl] at a1 a2 a3
  rw [e3] at a1 a2 a3
  refine ⟨MS.w_m_starts (MS.w_m_pile (zq_cw2 M1 ic ce) ((st.length : Int) + 1)) (aU M.m_starts ((st.length : Int) + 1) (M.m_starts st.length + W)), ?_, zq_J_push h ?_ rfl (fun j hj => ?_) (fun j hj => ?_) (fun j hj => ?_) (fun j hj => ?_) (fun j hj => ?_) ?_ ?_, ?_⟩
  · rw [s_Mo_number, if_pos ⟨by omega, by omega⟩, if_pos ⟨by omega, by omega⟩, if_pos ⟨by omega, by omega⟩, hM1]
    exact a1
  · exact zq_KF_sta (by rw [← hM1]; rfl) rfl (by omega)
  · show aU M.m_starts ((st.length : Int) + 1) _ j = _
    exact zq_aU_ne _ _ _ _ (by omega)
  · rw [← hM1]
    exact ⟨by show aU M.m_tableNames M.m_pile 0 j = _; exact zq_aU_ne _ _ _ _ (by omega), by show aU M.m_tableRows M.m_pile 1 j = _; exact zq_aU_ne _ _ _ _ (by omega)⟩
  · rw [← hM1]; exact ⟨rfl, rfl⟩
  · rw [← hM1]; show aU M.m_rowSeries (256 * M.m_pile) 0 j = _; exact zq_aU_ne _ _ _ _ (by omega)
  · have := a3 j (by omega)
    show ic j = _ ∧ ce j = _
    rw [this.1, this.2, ← hM1]; exact ⟨rfl, rfl⟩
  · refine ⟨⟨?_, fun i x hx => by simp at hx⟩, ⟨by simp, by simp⟩, [[]], fun _ => 0, ⟨?_, by simp⟩, by simp, by simp, fun r k hk => ?_, fun k => ?_, fun z => absurd rfl z⟩
    · rw [← hM1]; show aU M.m_tableNames M.m_pile 0 (st.length : Int) = _; rw [hp, zq_aU_at]; rfl
    · rw [← hM1]; show aU M.m_tableRows M.m_pile 1 (st.length : Int) = _; rw [hp, zq_aU_at]; rfl
    · have hr : r < 1 := by have := (List.getElem?_eq_some_iff.mp hk).1; simpa using this
      have : r = 0 := by omega
      subst this
      simp at hk; subst hk
      refine ⟨fun v hv => ?_, ?_⟩
      · show zq_cE _ (aU M.m_starts ((st.length : Int) + 1) _ (st.length : Int) + ((0 : Nat) : Int) * W + v) _
        rw [zq_aU_ne _ _ _ _ (by omega)]
        have q := a2 (M.m_starts st.length + ((0 : Nat) : Int) * W + v) (by simp; omega) (by simp; omega)
        show zq_cE _ _ (if ([] : zq_Key) = [] ∧ v < W then some M.m_amount else none)
        rw [if_pos ⟨rfl, hv⟩]
        refine ⟨q.1, ?_⟩
        have := q.2
        rw [← hM1] at this; exact this
      · rw [← hM1]; show aU M.m_rowSeries (256 * M.m_pile) 0 (256 * (st.length : Int) + ((0 : Nat) : Int)) = 0
        rw [hp, show 256 * (st.length : Int) + ((0 : Nat) : Int) = 256 * (st.length : Int) by omega, zq_aU_at]
    · simp only [List.mem_singleton]
      constructor
      · intro z; exact ⟨0, by omega, by rw [if_pos ⟨z, by omega⟩]; simp⟩
      · rintro ⟨v, v1, v2⟩
        by_cases z : k = [] ∧ v < W
        · exact z.1
        · rw [if_neg z] at v2; exact absurd rfl v2
  · rw [← hM1]
    show aU M.m_starts ((st.length : Int) + 1) (M.m_starts st.length + W) ((st.length : Int) + 1) = aU M.m_starts ((st.length : Int) + 1) _ (st.length : Int) + aU M.m_tableRows M.m_pile 1 (st.length : Int) * W
    rw [zq_aU_at, zq_aU_ne _ _ _ _ (by omega), hp, zq_aU_at]; omega
  · rw [← hM1]; exact ⟨rfl, rfl, rfl, rfl⟩
end
section
variable {T : Int → Int} {n w : Int} {lb : Nat → zq_LB} {N : Nat} {pts : List zq_P4} {fr wd : Int64} {W : Nat}
set_option maxRecDepth 100000 in
theorem zq_klt_nodup {ks : List zq_Key} (h : ks.Pairwise zq_klt) : ks.Nodup := by
  refine h.imp ?_
  intro a b hab e
  subst e
  have : zq_kcmp a a = 0 := (zq_kcmp_0 a a rfl).mpr rfl
  have hab : zq_kcmp a a = -1 := hab
  omega
set_option maxRecDepth 100000 in
theorem zq_annF_mem : ∀ (l : List zq_P4) (prev : Int → Option Int64) (x : zq_CT), x ∈ zq_annF prev l → ∃ y ∈ l, y.1 = x.1 ∧ y.2.1 = x.2.1
  | [], prev, x, h => by simp [zq_annF] at h
  | y :: r, prev, x, h => by
    rcases List.mem_cons.mp h with h | h
    · exact ⟨y, by simp, by rw [h], by rw [h]⟩
    · obtain ⟨z, z1, z2⟩ := zq_annF_mem r _ x h
      exact ⟨z, List.mem_cons_of_mem _ z1, z2⟩
set_option maxRecDepth 100000 in
theorem zq_r_reckon {M0 : MS} {st : List zq_Tbl} (h0 : zq_MB T n w M0) (hj : zq_JR T n lb N pts fr wd W M0 st) (hh : st.length ≤ 18) {a b c : Int → Int} (hNO : zq_NO M0 M0.m_pile a b c) {ns : List zq_NM} (hNX : zq_NX (zq_mnw M0 a b c) M0.m_pile ns) (ho : zq_okN n ns) {kd q0 : Int} {ms : List zq_MT} (hF : zq_OkF T n kd q0 ns ms) (hk : 1 ≤ kd ∧ kd ≤ 7) (k' f' t' : Int) (x' : Int64) :
    ∃ M', s_Mo_reckon (zq_mxs (zq_mnw M0 a b c) k' f' t' x') (kd - 1) q0 = some ((), M') ∧ zq_JR T n lb N pts fr wd W M' ((ns, zq_funT T lb pts fr wd W kd ns ms) :: st) ∧ zq_AF (zq_mxs (zq_mnw M0 a b c) k' f' t' x') M' := by
  have hp := hj.2.1
  have hCX0 := hj.1
  have hW := hCX0.1
  have hN := hCX0.2.2.2.1.2
  have hs := zq_J_st hj st.length (Nat.le_refl _)
  generalize hM : zq_mxs (zq_mnw M0 a b c) k' f' t' x' = M
  have hKM : zq_KF M0 M := by rw [← hM]; rfl
  have hMB : zq_MB T n w M := by rw [← hM]; exact h0
  have hC : zq_CX lb N pts fr wd W M := zq_CX_KF hCX0 hKM
  have hpM : M.m_pile = (st.length : Int) := by rw [← hM]; exact hp
  have hP : (0 : Int) ≤ (st.length : Int) ∧ (st.length : Int) < 20 := by omega
  have hx : zq_NX M (st.length : Int) ns := by rw [← hM, ← hp]; exact hNX
  have hstM : M.m_starts = M0.m_starts := by rw [← hM]; rfl
  -- the rows
  have gi0 : zq_GI T lb ns ms (st.length : Int) 0 M.m_rowOf M.m_hasBefore M.m_rowSeries (aU M.m_tableRows (st.length : Int) 0) [] := ⟨⟨by rw [zq_aU_at]; rfl, by simp⟩, by simp, by simp, fun r k hk => by simp at hk, fun i hi => by omega⟩
  obtain ⟨ro, hb, rs, tr, ks, vl, g1, g2, g3, g4⟩ := zq_E_g9 hMB hC hP hx ho hF N fU 0 M.m_rowOf M.m_hasBefore M.m_rowSeries (aU M.m_tableRows (st.length : Int) 0) [] M.m_valueLength (by omega) (zq_fU_gt (by omega)) gi0
  obtain ⟨⟨gi1, gi2⟩, gi3, gi4, gi5, gi6⟩ := g2
  have hks256 : ks.length ≤ 256 := by omega
  have hRW : 0 ≤ (ks.length : Int) * W := Int.mul_nonneg (by omega) (by omega)
  have hRW2 : (ks.length : Int) * W ≤ 16384 := by
    have := Int.mul_le_mul_of_nonneg_right (a := (ks.length : Int)) (b := 256) (c := (W : Int)) (by omega) (by omega)
    omega
  generalize hM2 : zq_gw M ro hb rs tr vl = M2 at g1
  obtain ⟨L, hL⟩ : ∃ L : Nat, (ks.length : Int) * W = L := ⟨((ks.length : Int) * W).toNat, by omega⟩
  have hst2 : M2.m_starts (st.length : Int) = M0.m_starts (st.length : Int) := by rw [← hM2]; show M.m_starts _ = _; rw [hstM]
  have hLr : M2.m_tableRows (st.length : Int) * M2.m_windows = L := by
    rw [← hM2]; show tr (st.length : Int) * M.m_windows = L
    rw [gi1, hC.1.1, hL]
  obtain ⟨ic, ce, c1, c2, c3⟩ := zq_E_g260 hP hLr (by rw [hst2]; omega) L fU 0 M2.m_isCell M2.m_cells (by omega) (zq_fU_gt (by omega))
  rw [show ((0 : Nat) : Int) = 0 from rfl, show zq_cw2 M2 M2.m_isCell M2.m_cells = M2 from rfl] at c1
  have egroup : s_Mo_group M (st.length : Int) q0 = some ((), zq_cw2 M2 ic ce) := by
    rw [s_Mo_group, if_pos hP]
    refine Eq.trans (show _ = q_Mo_group_9 fU (st.length : Int) q0 ((0 : Nat) : Int) (zq_gw M M.m_rowOf M.m_hasBefore M.m_rowSeries (aU M.m_tableRows (st.length : Int) 0) M.m_valueLength) from rfl) ?_
    rw [g1]; exact c1
  generalize hM3 : zq_cw2 M2 ic ce = M3 at *
  have hK3 : zq_KF M M3 := by rw [← hM3, ← hM2]; rfl
  have hC3 : zq_CX lb N pts fr wd W M3 := zq_CX_KF hC hK3
  have hst3 : M3.m_starts = M0.m_starts := by rw [← hM3, ← hM2]; exact hstM
  have hro3 : M3.m_rowOf = ro := by rw [← hM3, ← hM2]; rfl
  have hp3 : M3.m_pile = (st.length : Int) := by rw [← hM3, ← hM2]; exact hpM
  -- the points
  have init : ∀ (r : Nat) (k : zq_Key) (v : Nat), ks[r]? = some k → v < W → zq_CR (zq_gy M3 M3.m_isCell M3.m_cells M3.m_keyTimes M3.m_keySeries M3.m_befores M3.m_hasBefore) kd (M3.m_starts (st.length : Int) + r * W + v) ((r : Int) * 64 + v) none := by
    intro r k v hkr hv
    have hr : r < ks.length := (List.getElem?_eq_some_iff.mp hkr).1
    have hlt := zq_ix_lt (W := (W : Int)) (r := (r : Int)) (r' := (ks.length : Int)) (v := (v : Int)) (by omega) (by omega) (by omega)
    have hnn : 0 ≤ (r : Int) * W := Int.mul_nonneg (by omega) (by omega)
    have := c2 (M3.m_starts (st.length : Int) + r * W + v) (by rw [hst2, hst3]; simp; omega) (by rw [hst2, hst3]; omega)
    show M3.m_isCell _ = 0 ∧ M3.m_cells _ = ll 0
    rw [← hM3]; rw [← hM3] at this; exact this
  obtain ⟨ic', ce', kt', ky', bf', hb', e1, e2, e3⟩ := zq_E_reckon (T := T) (lb := lb) (ns := ns) (ms := ms) hC3 hP hk (ks := ks) hks256 (by rw [hst3]; omega) (zq_klt_nodup gi3) (fun i hi => by rw [hro3]; exact ⟨(gi6 i hi).2.1, (gi6 i hi).2.2⟩) pts 0 fU (fun _ => none) (fun _ _ => none) M3.m_isCell M3.m_cells M3.m_keyTimes M3.m_keySeries M3.m_befores M3.m_hasBefore (by simp) (by simp) (zq_fU_gt (by
      have hl : (zq_mpts M3).length = pts.length := by rw [hC3.2.2.1.1]
      unfold zq_mpts at hl; rw [zq_gsl_len] at hl
      have := hC3.2.2.1.2.2.1; omega)) (fun s s0 s1 => Or.inl ⟨by
        have := (gi6 s.toNat (by omega)).1
        rw [show ((s.toNat : Nat) : Int) = s by omega] at this
        rw [← hM3, ← hM2]; exact this, rfl⟩) init (fun _ k v y hy => by cases hy)
  rw [show ((0 : Nat) : Int) = 0 from rfl, show zq_gy M3 M3.m_isCell M3.m_cells M3.m_keyTimes M3.m_keySeries M3.m_befores M3.m_hasBefore = M3 from rfl] at e1
  generalize hM4 : MS.w_m_pile (zq_gy M3 ic' ce' kt' ky' bf' hb') (M3.m_pile + 1) = M4 at *
  have hK4 : zq_KF M M4 := by rw [← hM4]; exact hK3
  have hst4 : M4.m_starts = M0.m_starts := by rw [← hM4]; exact hst3
  -- the empty rows go
  have hTR : zq_TR M4 (st.length : Int) W ks (zq_funT T lb pts fr wd W kd ns ms) (fun k => rs (256 * (st.length : Int) + (ks.idxOf k : Int))) := by
    intro r k hkr
    have hr : r < ks.length := (List.getElem?_eq_some_iff.mp hkr).1
    refine ⟨fun v hv => ?_, ?_⟩
    · have q := e2 r k v hkr hv
      have ef : zq_funT T lb pts fr wd W kd ns ms k v = (((zq_annF (fun _ => none) pts).filter (zq_fits T lb fr wd W ns ms k v)).foldl (zq_cst kd) none).map (fun y => y.1) := rfl
      rw [ef, hst4, ← hst3, ← hM4]
      generalize ((zq_annF (fun _ => none) pts).filter (zq_fits T lb fr wd W ns ms k v)).foldl (zq_cst kd) none = cs at q
      cases cs with
      | none => exact q.1
      | some y => exact ⟨q.1, q.2.1⟩
    · have hid : ks.idxOf k = r := by
        have := (zq_klt_nodup gi3).idxOf_getElem r hr
        rw [(List.getElem?_eq_some_iff.mp hkr).2] at this; exact this
      show _ = rs (256 * (st.length : Int) + (ks.idxOf k : Int))
      rw [hid, ← hM4, ← hM3, ← hM2]; rfl
  have hTr4 : M4.m_tableRows (st.length : Int) = ks.length := by rw [← hM4, ← hM3, ← hM2]; exact gi1
  obtain ⟨ic5, ce5, rs5, s1, s2, s3, s4⟩ := zq_r_sweep (M := M4) hP ⟨(zq_CX_KF hC hK4).1.1, hW.2.1, hW.2.2⟩ (ks := ks) (g := zq_funT T lb pts fr wd W kd ns ms) (sr := fun k => rs (256 * (st.length : Int) + (ks.idxOf k : Int))) ⟨hTr4, hks256⟩ (by rw [hst4]; omega) hTR
  rw [hst4] at s1 s2 s3
  generalize hks' : ks.filter (zq_neK W (zq_funT T lb pts fr wd W kd ns ms)) = ks' at *
  have hks'l : ks'.length ≤ ks.length := by rw [← hks']; exact List.length_filter_le _ _
  refine ⟨MS.w_m_starts (MS.w_m_tableRows (zq_sw M4 ic5 ce5 rs5) (aU M4.m_tableRows (st.length : Int) (ks'.length : Int))) (aU M0.m_starts ((st.length : Int) + 1) (M0.m_starts (st.length : Int) + (ks'.length : Int) * W)), ?_, zq_J_push hj ?_ ?_ (fun j hj' => ?_) (fun j hj' => ?_) (fun j hj' => ?_) (fun j hj' => ?_) (fun j hj' => ?_) ?_ ?_, ?_⟩
  · rw [s_Mo_reckon, hpM, zq_mb2_eq egroup]
    rw [e1, zq_mb2_eq s1]
  · exact zq_KF_sta (by show zq_KF M0 _; rw [← hM4, ← hM3, ← hM2, ← hM]; rfl) rfl (by omega)
  · rw [← hM4]; show M3.m_pile + 1 = _; rw [hp3]
  · show aU M0.m_starts ((st.length : Int) + 1) _ j = _
    exact zq_aU_ne _ _ _ _ (by omega)
  · refine ⟨?_, ?_⟩
    · rw [← hM4, ← hM3, ← hM2, ← hM]; show a j = _; exact hNO.1 j (by omega)
    · show aU M4.m_tableRows (st.length : Int) _ j = _
      rw [zq_aU_ne _ _ _ _ (by omega), ← hM4, ← hM3, ← hM2]
      show tr j = _
      rw [g3 j (by omega), zq_aU_ne _ _ _ _ (by omega), ← hM]; rfl
  · have q := hNO.2 j (by left; omega)
    rw [← hM4, ← hM3, ← hM2, ← hM]; exact q
  · show rs5 j = _
    rw [s4 j (by left; omega), ← hM4, ← hM3, ← hM2]
    show rs j = _
    rw [g4 j (by left; omega), ← hM]; rfl
  · have q1 := s3 j (by left; omega)
    show ic5 j = _ ∧ ce5 j = _
    rw [q1.1, q1.2, ← hM4]
    show ic' j = _ ∧ ce' j = _
    have q2 := e3 j (by left; rw [hst3]; omega)
    rw [q2.1, q2.2, ← hM3]
    show ic j = _ ∧ ce j = _
    have q3 := c3 j (by left; rw [hst2]; omega)
    rw [q3.1, q3.2, ← hM2, ← hM]; exact ⟨rfl, rfl⟩
  · refine ⟨?_, ho, ks', fun k => rs (256 * (st.length : Int) + (ks.idxOf k : Int)), ⟨by show aU M4.m_tableRows (st.length : Int) _ (st.length : Int) = _; rw [zq_aU_at], by omega⟩, by rw [← hks']; exact gi3.filter _, fun k hk => gi4 k (by rw [← hks'] at hk; exact (List.mem_filter.mp hk).1), fun r k hkr => ?_, fun k => ?_, fun hne k hk => ?_⟩
    · rw [← hM4, ← hM3, ← hM2]; exact hx
    · obtain ⟨q1, q2⟩ := s2 r k hkr
      refine ⟨fun v hv => ?_, q2⟩
      show zq_cE _ (aU M0.m_starts ((st.length : Int) + 1) _ (st.length : Int) + r * W + v) _
      rw [zq_aU_ne _ _ _ _ (by omega)]
      exact q1 v hv
    · rw [← hks', List.mem_filter, zq_neK_iff]
      refine ⟨fun z => z.2, fun z => ⟨?_, z⟩⟩
      obtain ⟨v, v1, v2⟩ := z
      have v2 : zq_funT T lb pts fr wd W kd ns ms k v ≠ none := v2
      have ef : zq_funT T lb pts fr wd W kd ns ms k v = (((zq_annF (fun _ => none) pts).filter (zq_fits T lb fr wd W ns ms k v)).foldl (zq_cst kd) none).map (fun y => y.1) := rfl
      rw [ef] at v2
      cases hl : (zq_annF (fun _ => none) pts).filter (zq_fits T lb fr wd W ns ms k v) with
      | nil => rw [hl] at v2; exact absurd rfl v2
      | cons y rest =>
        have hy : y ∈ (zq_annF (fun _ => none) pts).filter (zq_fits T lb fr wd W ns ms k v) := by rw [hl]; simp
        obtain ⟨y1, y2⟩ := List.mem_filter.mp hy
        obtain ⟨z, z1, z2, z3⟩ := zq_annF_mem _ _ _ y1
        have hz := (hC3.2.2.1.2.2.2 z z1).1
        unfold zq_fits at y2
        simp only [Bool.and_eq_true, beq_iff_eq] at y2
        obtain ⟨si, hsi⟩ : ∃ si : Nat, y.1 = si := ⟨y.1.toNat, by omega⟩
        rw [hsi] at y2
        obtain ⟨r, r1, r2⟩ := (gi6 si (by omega)).2.1 y2.1.1
        rw [y2.1.2] at r2
        exact List.mem_of_getElem? r2
    · rw [← hks'] at hk
      obtain ⟨k1, k2⟩ := List.mem_filter.mp hk
      obtain ⟨r, hr, er⟩ := List.mem_iff_getElem.mp k1
      obtain ⟨i, i1, i2, i3, i4⟩ := gi5 r k (by rw [← er]; exact List.getElem?_eq_getElem _)
      have hid : ks.idxOf k = r := by
        have := (zq_klt_nodup gi3).idxOf_getElem r hr
        rw [er] at this; exact this
      exact ⟨i, i1, by show rs (256 * (st.length : Int) + (ks.idxOf k : Int)) = _; rw [hid]; exact i2, i4⟩
  · show aU M0.m_starts ((st.length : Int) + 1) (M0.m_starts (st.length : Int) + (ks'.length : Int) * W) ((st.length : Int) + 1) = aU M0.m_starts ((st.length : Int) + 1) _ (st.length : Int) + aU M4.m_tableRows (st.length : Int) (ks'.length : Int) (st.length : Int) * W
    rw [zq_aU_at, zq_aU_ne _ _ _ _ (by omega), zq_aU_at]
  · have q : M0.m_starts 0 = M.m_starts 0 := by rw [← hM]; rfl
    rw [← hM4, ← hM3, ← hM2]
    refine ⟨rfl, zq_KF_sta (by rfl) q (by omega), rfl, rfl⟩
end
section
variable {T : Int → Int} {n w : Int} {lb : Nat → zq_LB} {N : Nat} {pts : List zq_P4} {fr wd : Int64} {W : Nat}
set_option maxRecDepth 100000 in
/-- the top table is changed in its cells alone -/
theorem zq_J_top {M M' : MS} {st : List zq_Tbl} {t t' : zq_Tbl} (h : zq_JR T n lb N pts fr wd W M (t :: st)) (hk : zq_KF M M') (h1 : M'.m_pile = M.m_pile) (e0 : ∀ j, M'.m_starts j = M.m_starts j) (e1 : ∀ j, j < (st.length : Int) → M'.m_tableNames j = M.m_tableNames j ∧ M'.m_tableRows j = M.m_tableRows j) (e1' : M'.m_tableRows st.length = M.m_tableRows st.length) (e2 : ∀ j, j < 6 * (st.length : Int) → M'.m_nameFroms j = M.m_nameFroms j ∧ M'.m_nameLengths j = M.m_nameLengths j) (e5 : ∀ j, j < 256 * (st.length : Int) → M'.m_rowSeries j = M.m_rowSeries j) (e6 : ∀ j, j < M.m_starts st.length → M'.m_isCell j = M.m_isCell j ∧ M'.m_cells j = M.m_cells j) (ht : zq_TbR T n lb N W M' st.length t') : zq_JR T n lb N pts fr wd W M' (t' :: st) := by
  have hb : zq_JR T n lb N pts fr wd W (MS.w_m_pile M st.length) st := by
    refine ⟨zq_CX_KF h.1 rfl, rfl, h.2.2.1, fun pre u post he => ?_⟩
    exact h.2.2.2 (t :: pre) u post (by rw [he]; rfl)
  refine zq_J_push (M := MS.w_m_pile M st.length) hb hk ?_ (fun j _ => e0 j) e1 e2 e5 e6 ht ?_
  · rw [h1]; have := h.2.1; simp at this; exact this
  · rw [e0, e0, e1']; exact (h.2.2.2 [] t st rfl).2
set_option maxRecDepth 100000 in
theorem zq_E_ng21 {M : MS} (hW : M.m_windows = W ∧ W ≤ 64) {P : Int} (hP : 0 ≤ P ∧ P < 20) (K : Int → Int → MS → Option (Unit × MS)) {r : Int} {d : Int} (hd : M.m_starts P + r * W = d) (hds : 0 ≤ d ∧ d + W ≤ 327680) : ∀ (m f v : Nat) (ce : Int → Int64), v + m = W → m < f → ∃ ce', q_Mo_negate_21 K f P r v (MS.w_m_cells M ce) = K P (r + 1) (MS.w_m_cells M ce') ∧ (∀ j, d + v ≤ j → j < d + W → ce' j = -(ce j)) ∧ (∀ j, (j < d + v ∨ d + W ≤ j) → ce' j = ce j)
  | m, 0, v, ce => by omega
  | m, f + 1, v, ce => by
    intro hm hf
    have e1 : (MS.w_m_cells M ce).m_windows = W := hW.1
    rw [q_Mo_negate_21, e1, zq_w32i (z := (W : Int)) (by omega) (by omega), zq_w32i (z := (v : Int)) (by omega) (by omega)]
    cases m with
    | zero => rw [if_pos (by omega)]; exact ⟨ce, rfl, fun j h1 h2 => by omega, fun j _ => rfl⟩
    | succ m =>
      have c : s_Mo_cellAt (MS.w_m_cells M ce) P r v = some (d + v, MS.w_m_cells M ce) := by
        rw [s_Mo_cellAt, if_pos ⟨by omega, by omega⟩, e1]
        show some (M.m_starts P + r * W + v, _) = _
        rw [hd]
      have g : (0 : Int) ≤ d + v ∧ d + (v : Int) < 327680 := by omega
      rw [if_neg (by omega), zq_mb2_eq c, zq_mb2_eq c, if_pos g, if_pos g]
      obtain ⟨ce', a1, a2, a3⟩ := zq_E_ng21 hW hP K hd hds m f (v + 1) (aU ce (d + v) (-(ce (d + v)))) (by omega) (by omega)
      rw [show ((v + 1 : Nat) : Int) = (v : Int) + 1 by omega] at a1 a2 a3
      refine ⟨ce', a1, fun j h1 h2 => ?_, fun j hj => ?_⟩
      · by_cases z : j = d + v
        · rw [a3 j (by omega), z, zq_aU_at]
        · rw [a2 j (by omega) h2, zq_aU_ne _ _ _ _ z]
      · rw [a3 j (by omega), zq_aU_ne _ _ _ _ (by omega)]
set_option maxRecDepth 100000 in
theorem zq_E_ng9 {M : MS} (hW : M.m_windows = W ∧ W ≤ 64) {P : Int} (hP : 0 ≤ P ∧ P < 20) {R : Nat} (hR : M.m_tableRows P = R ∧ R ≤ 256) (hst : 0 ≤ M.m_starts P ∧ M.m_starts P + R * W ≤ 327680) : ∀ (m f r : Nat) (ce : Int → Int64), r + m = R → m < f → ∃ ce', q_Mo_negate_9 f P r (MS.w_m_cells M ce) = some ((), MS.w_m_cells M ce') ∧ (∀ j, M.m_starts P + r * W ≤ j → j < M.m_starts P + R * W → ce' j = -(ce j)) ∧ (∀ j, (j < M.m_starts P + r * W ∨ M.m_starts P + R * W ≤ j) → ce' j = ce j)
  | m, 0, r, ce => by omega
  | m, f + 1, r, ce => by
    intro hm hf
    have e1 : (MS.w_m_cells M ce).m_tableRows P = R := hR.1
    rw [q_Mo_negate_9, if_pos hP, e1, zq_w32i (z := (R : Int)) (by omega) (by omega), zq_w32i (z := (r : Int)) (by omega) (by omega)]
    cases m with
    | zero =>
      have hr : r = R := by omega
      subst hr
      rw [if_pos (by omega)]; exact ⟨ce, rfl, fun j h1 h2 => by omega, fun j _ => rfl⟩
    | succ m =>
      have hub : (r : Int) * W + W ≤ R * W := by
        have : ((r : Int) + 1) * W ≤ R * W := Int.mul_le_mul_of_nonneg_right (by omega) (by omega)
        rw [Int.add_mul] at this; omega
      have hnn : 0 ≤ (r : Int) * W := Int.mul_nonneg (by omega) (by omega)
      have hs : ((r : Int) + 1) * W = r * W + W := by rw [Int.add_mul]; omega
      obtain ⟨ce1, b1, b2, b3⟩ := zq_E_ng21 hW hP (q_Mo_negate_9 f) (r := r) (d := M.m_starts P + r * W) rfl (by omega) W fU 0 ce (by omega) (zq_fU_gt (by omega))
      rw [show ((0 : Nat) : Int) = 0 from rfl] at b1 b2 b3
      obtain ⟨ce', a1, a2, a3⟩ := zq_E_ng9 hW hP hR hst m f (r + 1) ce1 (by omega) (by omega)
      rw [show ((r + 1 : Nat) : Int) = (r : Int) + 1 by omega] at a1 a2 a3
      rw [hs] at a2 a3
      rw [if_neg (by omega), b1]
      refine ⟨ce', a1, fun j h1 h2 => ?_, fun j hj => ?_⟩
      · by_cases z : j < M.m_starts P + r * W + W
        · rw [a3 j (by omega), b2 j (by omega) (by omega)]
        · rw [a2 j (by omega) h2, b3 j (by omega)]
      · rw [a3 j (by omega), b3 j (by omega)]
set_option maxRecDepth 100000 in
theorem zq_r_negate {M : MS} {st : List zq_Tbl} {t : zq_Tbl} (h : zq_JR T n lb N pts fr wd W M (t :: st)) (hh : st.length ≤ 18) : ∃ M', s_Mo_negate M = some ((), M') ∧ zq_JR T n lb N pts fr wd W M' ((t.1, fun k v => (t.2 k v).map (fun x => -x)) :: st) ∧ zq_AF M M' := by
  have hp : M.m_pile = (st.length : Int) + 1 := by have := h.2.1; simp at this; exact this
  have hW := h.1.1
  have hs := zq_J_st h st.length (by simp)
  obtain ⟨ht, -⟩ := h.2.2.2 [] t st rfl
  obtain ⟨t1, t2, ks, sr, t3, t4, t5, t6, t7, t8⟩ := ht
  have hRW2 : (ks.length : Int) * W ≤ 16384 := by
    have := Int.mul_le_mul_of_nonneg_right (a := (ks.length : Int)) (b := 256) (c := (W : Int)) (by omega) (by omega)
    omega
  obtain ⟨ce, a1, a2, a3⟩ := zq_E_ng9 (M := M) ⟨hW.1, hW.2.2⟩ (P := (st.length : Int)) (by omega) (R := ks.length) t3 (by omega) ks.length fU 0 M.m_cells (by omega) (zq_fU_gt (by omega))
  rw [show ((0 : Nat) : Int) * W = 0 by simp] at a2 a3
  refine ⟨MS.w_m_cells M ce, ?_, zq_J_top h rfl rfl (fun _ => rfl) (fun j _ => ⟨rfl, rfl⟩) rfl (fun j _ => ⟨rfl, rfl⟩) (fun j _ => rfl) (fun j hj => ⟨rfl, a3 j (by left; omega)⟩) ?_, rfl, rfl, rfl, rfl⟩
  · rw [s_Mo_negate, hp, show (st.length : Int) + 1 - 1 = st.length by omega]
    exact a1
  · refine ⟨t1, t2, ks, sr, t3, t4, t5, fun r k hk => ?_, fun k => ?_, t8⟩
    · have hr : r < ks.length := (List.getElem?_eq_some_iff.mp hk).1
      refine ⟨fun v hv => ?_, (t6 r k hk).2⟩
      have hlt := zq_ix_lt (W := (W : Int)) (r := (r : Int)) (r' := (ks.length : Int)) (v := (v : Int)) (by omega) (by omega) (by omega)
      have hnn : 0 ≤ (r : Int) * W := Int.mul_nonneg (by omega) (by omega)
      have q := (t6 r k hk).1 v hv
      have e := a2 (M.m_starts (st.length : Int) + r * W + v) (by omega) (by omega)
      show zq_cE (MS.w_m_cells M ce) (M.m_starts (st.length : Int) + r * W + v) ((t.2 k v).map (fun x => -x))
      cases ho : t.2 k v with
      | none => rw [ho] at q; exact q
      | some x => rw [ho] at q; exact ⟨q.1, by show ce _ = -x; rw [e, q.2]⟩
    · rw [t7 k]
      constructor
      · rintro ⟨v, v1, v2⟩; refine ⟨v, v1, fun z => v2 ?_⟩
        cases ho : t.2 k v with
        | none => rfl
        | some x => have z : (t.2 k v).map (fun x => -x) = none := z
                    rw [ho] at z; cases z
      · rintro ⟨v, v1, v2⟩; refine ⟨v, v1, fun z => v2 ?_⟩
        show (t.2 k v).map (fun x => -x) = none
        rw [z]; rfl
/-! two tables meet -/
set_option maxRecDepth 100000 in
theorem zq_r_join {M : MS} {g : Int} (hg : zq_bsg g) {d a b : Int} (hd : 0 ≤ d ∧ d < 327680) (ha : 0 ≤ a ∧ a < 327680) (hb : 0 ≤ b ∧ b < 327680) {x y : Option Int64} (hx : zq_cE M a x) (hy : zq_cE M b y) : ∃ ic ce, s_Mo_join M g d a b = some ((), zq_cw2 M ic ce) ∧ zq_cE (zq_cw2 M ic ce) d (zq_opO g x y) ∧ (∀ j, j ≠ d → ic j = M.m_isCell j ∧ ce j = M.m_cells j) := by
  have hga : (0 : Int) ≤ g ∧ g ≤ 400 := by unfold zq_bsg at hg; omega
  have x01 := zq_cE_01 hx; have y01 := zq_cE_01 hy
  have none_ : zq_opO g x y = none → ∃ ic ce, q_Mo_join_47 g d a b M = some ((), zq_cw2 M ic ce) ∧ zq_cE (zq_cw2 M ic ce) d (zq_opO g x y) ∧ (∀ j, j ≠ d → ic j = M.m_isCell j ∧ ce j = M.m_cells j) := by
    intro h0
    refine ⟨aU M.m_isCell d 0, aU M.m_cells d (ll 0), ?_, ?_, fun j hj => ⟨zq_aU_ne _ _ _ _ hj, zq_aU_ne _ _ _ _ hj⟩⟩
    · rw [q_Mo_join_47, q_Mo_join_48, if_pos ha, if_pos hb, if_pos hd, if_pos (Or.inl rfl), if_pos (by decide), q_Mo_join_150, if_pos hd]; rfl
    · rw [h0]; exact zq_aU_at _ _ _
  have some_ : ∀ z u, x = some u → ∀ u', y = some u' → zq_opO g x y = some z → (g = 47 ∨ g = 37 → u' ≠ 0) → ∃ ic ce, q_Mo_join_43 g d a b M = some ((), zq_cw2 M ic ce) ∧ zq_cE (zq_cw2 M ic ce) d (zq_opO g x y) ∧ (∀ j, j ≠ d → ic j = M.m_isCell j ∧ ce j = M.m_cells j) := by
    intro z u hu u' hu' hz hnz
    rw [hu] at hx; rw [hu'] at hy
    have ex : M.m_cells a = u := hx.2
    have ey : M.m_cells b = u' := hy.2
    refine ⟨aU M.m_isCell d 1, aU M.m_cells d z, ?_, ?_, fun j hj => ⟨zq_aU_ne _ _ _ _ hj, zq_aU_ne _ _ _ _ hj⟩⟩
    · rw [hu, hu'] at hz
      unfold zq_opO at hz
      simp only at hz
      rw [q_Mo_join_43, q_Mo_join_48, if_pos ha, if_pos hb, if_pos hd, if_pos (Or.inr rfl), if_neg (by decide), zq_w32i (z := g) (by omega) (by omega), ex, ey]
      have fin : ∀ q : Int64, q_Mo_join_150 q d (MS.w_m_isCell M (aU M.m_isCell d 1)) = some ((), zq_cw2 M (aU M.m_isCell d 1) (aU M.m_cells d q)) := fun q => by rw [q_Mo_join_150, if_pos hd]; rfl
      unfold zq_bsg at hg
      rcases hg with e | e | e | e | e
      · rw [if_pos e] at hz ⊢; rw [fin]; injection hz with hz; rw [hz]
      · rw [if_neg (by omega), if_pos e] at hz ⊢; rw [fin]; injection hz with hz; rw [hz]
      · rw [if_neg (by omega), if_neg (by omega), if_pos e] at hz ⊢; rw [fin]; injection hz with hz; rw [hz]
      · have n0 := hnz (Or.inl e)
        rw [if_neg (by omega), if_neg (by omega), if_neg (by omega), if_neg n0, if_pos e] at hz
        rw [if_neg (by omega), if_neg (by omega), if_neg (by omega), if_pos e, if_pos n0, fin]; injection hz with hz; rw [hz]
      · have n0 := hnz (Or.inr e)
        rw [if_neg (by omega), if_neg (by omega), if_neg (by omega), if_neg n0, if_neg (by omega)] at hz
        rw [if_neg (by omega), if_neg (by omega), if_neg (by omega), if_neg (by omega), if_pos n0, fin]; injection hz with hz; rw [hz]
    · rw [hz]; exact ⟨zq_aU_at _ _ _, zq_aU_at _ _ _⟩
  rw [s_Mo_join, if_pos ha, zq_w32i (z := M.m_isCell a) (by omega) (by omega)]
  cases x with
  | none =>
    have hx0 : M.m_isCell a = 0 := hx
    rw [if_pos hx0]
    exact none_ (by unfold zq_opO; rfl)
  | some u =>
    have hx1 : M.m_isCell a = 1 := hx.1
    rw [if_neg (by omega), if_pos hb, zq_w32i (z := M.m_isCell b) (by omega) (by omega)]
    cases y with
    | none =>
      have hy0 : M.m_isCell b = 0 := hy
      rw [if_pos hy0]
      exact none_ (by unfold zq_opO; rfl)
    | some u' =>
      have hy1 : M.m_isCell b = 1 := hy.1
      have ey : M.m_cells b = u' := hy.2
      rw [if_neg (by omega), zq_w32i (z := g) (by omega) (by omega)]
      have z0 : u'.toInt = 0 ↔ u' = 0 := ⟨fun z => Int64.toInt_inj.mp (by rw [z]; rfl), fun z => by rw [z]; rfl⟩
      by_cases c1 : g = 47 ∨ g = 37
      · have e31 : (if g = 47 then q_Mo_join_31 g d a b M else if g = 37 then q_Mo_join_31 g d a b M else q_Mo_join_43 g d a b M) = if u' = 0 then q_Mo_join_47 g d a b M else q_Mo_join_43 g d a b M := by
          have q31 : q_Mo_join_31 g d a b M = if u' = 0 then q_Mo_join_47 g d a b M else q_Mo_join_43 g d a b M := by
            rw [q_Mo_join_31, if_pos hb, ey]
            by_cases z : u' = 0
            · rw [if_pos (z0.mpr z), if_pos z]
            · rw [if_neg (fun q => z (z0.mp q)), if_neg z]
          rcases c1 with e | e
          · rw [if_pos e, q31]
          · rw [if_neg (by omega), if_pos e, q31]
        rw [e31]
        by_cases z : u' = 0
        · rw [if_pos z]
          refine none_ ?_
          unfold zq_opO; simp only
          rw [if_neg (by omega), if_neg (by omega), if_neg (by omega), if_pos z]
        · rw [if_neg z]
          rcases c1 with e | e
          · exact some_ (u / u') u rfl u' rfl (by unfold zq_opO; simp only; rw [if_neg (by omega), if_neg (by omega), if_neg (by omega), if_neg z, if_pos e]) (fun _ => z)
          · exact some_ (u - u / u' * u') u rfl u' rfl (by unfold zq_opO; simp only; rw [if_neg (by omega), if_neg (by omega), if_neg (by omega), if_neg z, if_neg (by omega)]) (fun _ => z)
      · rw [if_neg (by omega), if_neg (by omega)]
        unfold zq_bsg at hg
        by_cases e1 : g = 43
        · exact some_ (u + u') u rfl u' rfl (by unfold zq_opO; simp only; rw [if_pos e1]) (fun z => absurd z c1)
        by_cases e2 : g = 45
        · exact some_ (u - u') u rfl u' rfl (by unfold zq_opO; simp only; rw [if_neg e1, if_pos e2]) (fun z => absurd z c1)
        · exact some_ (u * u') u rfl u' rfl (by unfold zq_opO; simp only; rw [if_neg e1, if_neg e2, if_pos (by omega)]) (fun z => absurd z c1)
end
section
variable {T : Int → Int} {n w : Int} {lb : Nat → zq_LB} {N : Nat} {pts : List zq_P4} {fr wd : Int64} {W : Nat}
set_option maxRecDepth 100000 in
theorem zq_E_hs79 {M : MS} (h : zq_MB T n w M) (k24 : Int → Int → Int → Int → MS → Option (Int × MS)) {P Q i : Int} {x y : zq_NM} (hx : M.m_nameFroms (6 * P + i) = x.1 ∧ 0 ≤ x.1 ∧ 0 ≤ x.2 ∧ x.1 + x.2 ≤ n) (hy : M.m_nameFroms (6 * Q + i) = y.1 ∧ 0 ≤ y.1 ∧ 0 ≤ y.2 ∧ y.1 + y.2 ≤ n) {len : Nat} (hxl : x.2 = len) (hP : 0 ≤ 6 * P + i ∧ 6 * P + i < 120) (hQ : 0 ≤ 6 * Q + i ∧ 6 * Q + i < 120) : ∀ (f j : Nat) (d : Prop) [Decidable d], (d → y.2 = x.2) → j ≤ len → len - j < f → q_Mo_hasSameNames_79 k24 f P Q (zq_b01 d) i len j M = k24 P Q (zq_b01 (d ∧ zq_slF T (len - j) (x.1 + j) = zq_slF T (len - j) (y.1 + j))) (i + 1) M
  | 0, j, d, _ => by omega
  | f + 1, j, d, _ => by
    intro hd h1 h2
    have hn := h.2.2.2.1
    rw [q_Mo_hasSameNames_79, zq_w32i (z := (len : Int)) (by omega) (by omega), zq_w32i (z := (j : Int)) (by omega) (by omega)]
    by_cases c1 : len ≤ j
    · rw [if_pos (by omega), show len - j = 0 by omega, q_Mo_hasSameNames_145]
      have e : zq_b01 (d ∧ zq_slF T 0 (x.1 + j) = zq_slF T 0 (y.1 + j)) = zq_b01 d := zq_b01_i _ _ (by simp [zq_slF])
      rw [e]
    · rw [if_neg (by omega)]
      by_cases c2 : d
      · have hyl := hd c2
        rw [if_neg (by rw [zq_b01_0]; simp [c2]), if_pos hP, hx.1, if_pos ⟨by omega, by omega⟩, if_pos hQ, hy.1, if_pos ⟨by omega, by omega⟩]
        have e := zq_tape_T h (i := x.1 + j) (j := y.1 + j) (by omega) (by omega)
        have e3 : (if w32 (M.m_tape (x.1 + j)) = w32 (M.m_tape (y.1 + j)) then q_Mo_hasSameNames_138 k24 (q_Mo_hasSameNames_79 k24 f) P Q i len j 1 M else q_Mo_hasSameNames_138 k24 (q_Mo_hasSameNames_79 k24 f) P Q i len j 0 M) = q_Mo_hasSameNames_79 k24 f P Q (zq_b01 (T (x.1 + j) = T (y.1 + j))) i len ((j + 1 : Nat) : Int) M := by
          rw [show ((j + 1 : Nat) : Int) = (j : Int) + 1 by omega]
          unfold zq_b01
          by_cases c3 : T (x.1 + j) = T (y.1 + j)
          · rw [if_pos (e.mpr c3), if_pos c3]; rfl
          · rw [if_neg (fun z => c3 (e.mp z)), if_neg c3]; rfl
        rw [e3, zq_E_hs79 h k24 hx hy hxl hP hQ f (j + 1) (T (x.1 + j) = T (y.1 + j)) (fun _ => hyl) (by omega) (by omega)]
        have eb : zq_b01 (T (x.1 + j) = T (y.1 + j) ∧ zq_slF T (len - (j + 1)) (x.1 + (j + 1 : Nat)) = zq_slF T (len - (j + 1)) (y.1 + (j + 1 : Nat))) = zq_b01 (d ∧ zq_slF T (len - j) (x.1 + j) = zq_slF T (len - j) (y.1 + j)) := by
          apply zq_b01_i
          rw [show len - j = (len - (j + 1)) + 1 by omega, zq_slF, zq_slF, List.cons.injEq, show x.1 + (j : Int) + 1 = x.1 + ((j + 1 : Nat) : Int) by omega, show y.1 + (j : Int) + 1 = y.1 + ((j + 1 : Nat) : Int) by omega]
          exact ⟨fun z => ⟨c2, z⟩, fun z => z.2⟩
        rw [eb]
      · rw [if_pos (by rw [zq_b01_0]; exact c2), q_Mo_hasSameNames_145]
        have e : zq_b01 (d ∧ zq_slF T (len - j) (x.1 + j) = zq_slF T (len - j) (y.1 + j)) = zq_b01 d := zq_b01_i _ _ ⟨fun z => z.1, fun z => absurd z c2⟩
        rw [e]
set_option maxRecDepth 100000 in
theorem zq_E_hs24 {M : MS} (h : zq_MB T n w M) {P Q : Int} (hP : 0 ≤ P ∧ P < 20) (hQ : 0 ≤ Q ∧ Q < 20) {ns ms : List zq_NM} (hx : zq_NX M P ns) (hy : zq_NX M Q ms) (ho : zq_okN n ns) (hq : zq_okN n ms) (hl : ns.length = ms.length) : ∀ (f i : Nat) (d : Prop) [Decidable d], i ≤ ns.length → ns.length - i < f → q_Mo_hasSameNames_24 f P Q (zq_b01 d) i M = some (zq_b01 (d ∧ (ns.drop i).map (zq_nmx T) = (ms.drop i).map (zq_nmx T)), M)
  | 0, i, d, _ => by omega
  | f + 1, i, d, _ => by
    intro h1 h2
    have h6 := ho.2
    have hn := h.2.2.2.1
    have fin : ∀ (e : Prop) [Decidable e], (if zq_b01 e = 0 ∨ zq_b01 e = 1 then some (zq_b01 e, M) else none) = some (zq_b01 e, M) := fun e _ => if_pos (by unfold zq_b01; split <;> simp)
    rw [q_Mo_hasSameNames_24, if_pos hP, hx.1, zq_w32i (z := (ns.length : Int)) (by omega) (by omega), zq_w32i (z := (i : Int)) (by omega) (by omega)]
    by_cases c1 : ns.length ≤ i
    · rw [if_pos (by omega), fin, List.drop_eq_nil_of_le c1, List.drop_eq_nil_of_le (by omega)]
      have e : zq_b01 (d ∧ ([] : List zq_NM).map (zq_nmx T) = ([] : List zq_NM).map (zq_nmx T)) = zq_b01 d := zq_b01_i _ _ (by simp)
      rw [e]
    · rw [if_neg (by omega)]
      by_cases c2 : d
      · have hi : ns[i]? = some (ns[i]'(by omega)) := List.getElem?_eq_getElem _
        have hj : ms[i]? = some (ms[i]'(by omega)) := List.getElem?_eq_getElem _
        have n1 := hx.2 i _ hi; have n2 := hy.2 i _ hj
        have o1 := ho.1 _ (List.mem_of_getElem? hi); have o2 := hq.1 _ (List.mem_of_getElem? hj)
        have ed : (ns.drop i).map (zq_nmx T) = zq_nmx T (ns[i]'(by omega)) :: (ns.drop (i + 1)).map (zq_nmx T) := by rw [List.drop_eq_getElem_cons (show i < ns.length by omega)]; rfl
        have ee : (ms.drop i).map (zq_nmx T) = zq_nmx T (ms[i]'(by omega)) :: (ms.drop (i + 1)).map (zq_nmx T) := by rw [List.drop_eq_getElem_cons (show i < ms.length by omega)]; rfl
        rw [ed, ee]
        generalize ns[i]'(by omega) = x at *
        generalize ms[i]'(by omega) = y at *
        have zq_gP : (0 : Int) ≤ 6 * P + i ∧ 6 * P + (i : Int) < 120 := by omega
        have gQ : (0 : Int) ≤ 6 * Q + i ∧ 6 * Q + (i : Int) < 120 := by omega
        rw [if_neg (by rw [zq_b01_0]; simp [c2]), if_pos zq_gP, if_pos gQ, n1.2, n2.2, zq_w32i (z := x.2) (by omega) (by omega), zq_w32i (z := y.2) (by omega) (by omega)]
        have key : ∀ (e : Prop) [Decidable e], (e → y.2 = x.2) → (e ↔ x.2 = y.2) → q_Mo_hasSameNames_75 (q_Mo_hasSameNames_24 f) P Q i x.2 (zq_b01 e) M = some (zq_b01 (d ∧ zq_nmx T x :: (ns.drop (i + 1)).map (zq_nmx T) = zq_nmx T y :: (ms.drop (i + 1)).map (zq_nmx T)), M) := by
          intro e _ he he2
          have := zq_E_hs79 h (q_Mo_hasSameNames_24 f) (P := P) (Q := Q) (i := i) (x := x) (y := y) ⟨n1.1, o1⟩ ⟨n2.1, o2⟩ (len := x.2.toNat) (by omega) zq_gP gQ fU 0 e he (by omega) (zq_fU_gt (by omega))
          rw [show ((x.2.toNat : Nat) : Int) = x.2 by omega, show ((0 : Nat) : Int) = 0 from rfl] at this
          rw [q_Mo_hasSameNames_75, this]
          have ih := zq_E_hs24 h hP hQ hx hy ho hq hl f (i + 1) (e ∧ zq_slF T (x.2.toNat - 0) (x.1 + 0) = zq_slF T (x.2.toNat - 0) (y.1 + 0)) (by omega) (by omega)
          rw [show ((i + 1 : Nat) : Int) = (i : Int) + 1 by omega] at ih
          rw [ih]
          have eb : zq_b01 ((e ∧ zq_slF T (x.2.toNat - 0) (x.1 + 0) = zq_slF T (x.2.toNat - 0) (y.1 + 0)) ∧ (ns.drop (i + 1)).map (zq_nmx T) = (ms.drop (i + 1)).map (zq_nmx T)) = zq_b01 (d ∧ zq_nmx T x :: (ns.drop (i + 1)).map (zq_nmx T) = zq_nmx T y :: (ms.drop (i + 1)).map (zq_nmx T)) := by
            apply zq_b01_i
            rw [List.cons.injEq, zq_nmx_iff o1.2.1 o2.2.1, Nat.sub_zero, Int.add_zero, Int.add_zero, he2]
            constructor
            · rintro ⟨⟨z1, z2⟩, z3⟩; exact ⟨c2, ⟨z1, by rw [← z1]; exact z2⟩, z3⟩
            · rintro ⟨_, ⟨z1, z2⟩, z3⟩; exact ⟨⟨z1, by rw [z1]; exact z2⟩, z3⟩
          rw [eb]
        by_cases c3 : x.2 = y.2
        · rw [if_pos c3]
          have := key True (fun _ => c3.symm) ⟨fun _ => c3, fun _ => trivial⟩
          rw [zq_b01_T] at this; exact this
        · rw [if_neg c3]
          have := key False (fun z => z.elim) ⟨fun z => z.elim, fun z => absurd z c3⟩
          rw [zq_b01_F] at this; exact this
      · rw [if_pos (by rw [zq_b01_0]; exact c2), fin]
        have e : zq_b01 (d ∧ (ns.drop i).map (zq_nmx T) = (ms.drop i).map (zq_nmx T)) = zq_b01 d := zq_b01_i _ _ ⟨fun z => z.1, fun z => absurd z c2⟩
        rw [e]
set_option maxRecDepth 100000 in
theorem zq_r_same {M : MS} (h : zq_MB T n w M) {P Q : Int} (hP : 0 ≤ P ∧ P < 20) (hQ : 0 ≤ Q ∧ Q < 20) {ns ms : List zq_NM} (hx : zq_NX M P ns) (hy : zq_NX M Q ms) (ho : zq_okN n ns) (hq : zq_okN n ms) : s_Mo_hasSameNames M P Q = some (zq_b01 (ns.map (zq_nmx T) = ms.map (zq_nmx T)), M) := by
  have h6 := ho.2; have h7 := hq.2
  rw [s_Mo_hasSameNames, if_pos hP, if_pos hQ, hx.1, hy.1, zq_w32i (z := (ns.length : Int)) (by omega) (by omega), zq_w32i (z := (ms.length : Int)) (by omega) (by omega)]
  by_cases c : ns.length = ms.length
  · rw [if_pos (by omega), q_Mo_hasSameNames_20]
    have := zq_E_hs24 h hP hQ hx hy ho hq c fU 0 True (by omega) (zq_fU_gt (by omega))
    rw [zq_b01_T, List.drop_zero, List.drop_zero, show ((0 : Nat) : Int) = 0 from rfl] at this
    rw [this]
    have e : zq_b01 (True ∧ ns.map (zq_nmx T) = ms.map (zq_nmx T)) = zq_b01 (ns.map (zq_nmx T) = ms.map (zq_nmx T)) := zq_b01_i _ _ (by simp)
    rw [e]
  · rw [if_neg (by omega), q_Mo_hasSameNames_20, show fU = 999999 + 1 from rfl, q_Mo_hasSameNames_24, if_pos hP]
    have e : zq_b01 (ns.map (zq_nmx T) = ms.map (zq_nmx T)) = 0 := zq_b01_f (fun z => by have := congrArg List.length z; simp at this; omega)
    rw [e]
    by_cases z : w32 (M.m_tableNames P) ≤ w32 0
    · rw [if_pos z]; rfl
    · rw [if_neg z, if_pos (by decide)]; rfl
set_option maxRecDepth 100000 in
/-- the end of every operation -/
theorem zq_r_opEnd {M M1 : MS} {st : List zq_Tbl} {a b t : zq_Tbl} (hj : zq_JR T n lb N pts fr wd W M (b :: a :: st)) (hh : st.length ≤ 17) (hk : zq_KF M M1) (hp : M1.m_pile = M.m_pile) (haf : zq_AF M M1) (e0 : ∀ j, j ≤ (st.length : Int) → M1.m_starts j = M.m_starts j) (e1 : ∀ j, j < (st.length : Int) → M1.m_tableNames j = M.m_tableNames j ∧ M1.m_tableRows j = M.m_tableRows j) (e2 : ∀ j, j < 6 * (st.length : Int) → M1.m_nameFroms j = M.m_nameFroms j ∧ M1.m_nameLengths j = M.m_nameLengths j) (e5 : ∀ j, j < 256 * (st.length : Int) → M1.m_rowSeries j = M.m_rowSeries j) (e6 : ∀ j, j < M.m_starts st.length → M1.m_isCell j = M.m_isCell j ∧ M1.m_cells j = M.m_cells j) (hx : zq_NX M1 st.length t.1) (ho : zq_okN n t.1) {ks : List zq_Key} {sr : zq_Key → Int} (hR : M1.m_tableRows st.length = ks.length ∧ ks.length ≤ 256) (hs : ks.Pairwise zq_klt) (hl : ∀ k ∈ ks, k.length = t.1.length) (hT : zq_TR M1 st.length W ks t.2 sr) (hm : ∀ k, (∃ v, v < W ∧ t.2 k v ≠ none) → k ∈ ks) (hsr : t.1 ≠ [] → ∀ k ∈ ks, ∃ i : Nat, i < N ∧ sr k = i ∧ zq_keyOf T lb t.1 i = k) : ∃ M', q_Mo_operate_182 st.length M1 = some (1, M') ∧ zq_JR T n lb N pts fr wd W M' (t :: st) ∧ zq_AF M M' := by
  have hpM : M.m_pile = (st.length : Int) + 2 := by have := hj.2.1; simp at this; omega
  have hW := hj.1.1
  have hst := zq_J_st hj st.length (by simp; omega)
  have hC1 := zq_CX_KF hj.1 hk
  have hRW2 : (ks.length : Int) * W ≤ 16384 := by
    have := Int.mul_le_mul_of_nonneg_right (a := (ks.length : Int)) (b := 256) (c := (W : Int)) (by omega) (by omega)
    omega
  generalize hM2 : MS.w_m_pile M1 (M1.m_pile - 1) = M2
  have hst2 : M2.m_starts = M1.m_starts := by rw [← hM2]
  obtain ⟨ic, ce, rs, s1, s2, s3, s4⟩ := zq_r_sweep (M := M2) (P := (st.length : Int)) (by omega) (W := W) ⟨by rw [← hM2]; exact hC1.1.1, hW.2.1, hW.2.2⟩ (ks := ks) (g := t.2) (sr := sr) (by rw [← hM2]; exact hR) (by rw [hst2, e0 _ (Int.le_refl _)]; omega) (by rw [← hM2]; exact hT)
  rw [hst2, e0 _ (Int.le_refl _)] at s1 s2 s3
  generalize hks : ks.filter (zq_neK W t.2) = ks' at *
  have hks'l : ks'.length ≤ ks.length := by rw [← hks]; exact List.length_filter_le _ _
  have hb : zq_JR T n lb N pts fr wd W (MS.w_m_pile M st.length) st := by
    refine ⟨zq_CX_KF hj.1 rfl, rfl, hj.2.2.1, fun pre u post he => ?_⟩
    exact hj.2.2.2 (b :: a :: pre) u post (by rw [he]; rfl)
  refine ⟨MS.w_m_starts (MS.w_m_tableRows (zq_sw M2 ic ce rs) (aU M2.m_tableRows (st.length : Int) (ks'.length : Int))) (aU M1.m_starts ((st.length : Int) + 1) (M.m_starts (st.length : Int) + (ks'.length : Int) * W)), ?_, zq_J_push (M := MS.w_m_pile M st.length) hb ?_ ?_ (fun j hj' => ?_) (fun j hj' => ?_) (fun j hj' => ?_) (fun j hj' => ?_) (fun j hj' => ?_) ?_ ?_, ?_⟩
  · rw [q_Mo_operate_182, hM2, zq_mb2_eq s1]
  · show zq_KF M _; refine zq_KF_tr hk ?_; exact zq_KF_sta (by rw [← hM2]; rfl) rfl (by omega)
  · rw [← hM2]; show M1.m_pile - 1 = _; rw [hp, hpM]; omega
  · show aU M1.m_starts ((st.length : Int) + 1) _ j = _
    rw [zq_aU_ne _ _ _ _ (by omega)]; exact e0 j hj'
  · refine ⟨?_, ?_⟩
    · rw [← hM2]; exact (e1 j hj').1
    · show aU M2.m_tableRows (st.length : Int) _ j = _
      rw [zq_aU_ne _ _ _ _ (by omega), ← hM2]; exact (e1 j hj').2
  · rw [← hM2]; exact e2 j hj'
  · show rs j = _
    rw [s4 j (by left; omega), ← hM2]; exact e5 j hj'
  · have q := s3 j (Or.inl hj')
    show ic j = _ ∧ ce j = _
    rw [q.1, q.2, ← hM2]; exact e6 j hj'
  · refine ⟨?_, ho, ks', sr, ⟨by show aU M2.m_tableRows (st.length : Int) _ (st.length : Int) = _; rw [zq_aU_at], by omega⟩, by rw [← hks]; exact hs.filter _, fun k hk => hl k (by rw [← hks] at hk; exact (List.mem_filter.mp hk).1), fun r k hkr => ?_, fun k => ?_, fun hne k hk => hsr hne k (by rw [← hks] at hk; exact (List.mem_filter.mp hk).1)⟩
    · rw [← hM2]; exact hx
    · obtain ⟨q1, q2⟩ := s2 r k hkr
      refine ⟨fun v hv => ?_, q2⟩
      show zq_cE _ (aU M1.m_starts ((st.length : Int) + 1) _ (st.length : Int) + r * W + v) _
      rw [zq_aU_ne _ _ _ _ (by omega), e0 _ (Int.le_refl _)]
      exact q1 v hv
    · rw [← hks, List.mem_filter, zq_neK_iff]
      exact ⟨fun z => z.2, fun z => ⟨hm k z, z⟩⟩
  · show aU M1.m_starts ((st.length : Int) + 1) (M.m_starts (st.length : Int) + (ks'.length : Int) * W) ((st.length : Int) + 1) = aU M1.m_starts ((st.length : Int) + 1) _ (st.length : Int) + aU M2.m_tableRows (st.length : Int) (ks'.length : Int) (st.length : Int) * W
    rw [zq_aU_at, zq_aU_ne _ _ _ _ (by omega), zq_aU_at, e0 _ (Int.le_refl _)]
  · obtain ⟨f1, f2, f3, f4⟩ := haf
    refine ⟨Eq.trans ?_ f1, zq_KF_tr f2 ?_, Eq.trans ?_ f3, Eq.trans ?_ f4⟩
    · rw [← hM2]; rfl
    · rw [← hM2]; rfl
    · rw [← hM2]; rfl
    · rw [← hM2]; rfl
end
section
variable {T : Int → Int} {n w : Int} {lb : Nat → zq_LB} {N : Nat} {pts : List zq_P4} {fr wd : Int64} {W : Nat}
set_option maxRecDepth 100000 in
/-- a row of cells is joined -/
theorem zq_E_row {M : MS} {γ : Type} {g : Int} (hg : zq_bsg g) {d a b : Int} (hd : 0 ≤ d ∧ d + W ≤ 327680) (ha : d ≤ a ∧ a + W ≤ 327680) (hb : d ≤ b ∧ b + W ≤ 327680) {x y : Nat → Option Int64} (F : Nat → Int → MS → Option γ) (K : MS → Option γ) (hF : ∀ (f v : Nat) (ic : Int → Int) (ce : Int → Int64), v < W → F (f + 1) v (zq_cw2 M ic ce) = mb2 (s_Mo_join (zq_cw2 M ic ce) g (d + v) (a + v) (b + v)) (fun _ S => F f ((v : Int) + 1) S)) (hE : ∀ (f : Nat) (ic : Int → Int) (ce : Int → Int64), F (f + 1) W (zq_cw2 M ic ce) = K (zq_cw2 M ic ce)) : ∀ (m f v : Nat) (ic : Int → Int) (ce : Int → Int64), v + m = W → m < f → (∀ u : Nat, v ≤ u → u < W → zq_cE (zq_cw2 M ic ce) (a + u) (x u) ∧ zq_cE (zq_cw2 M ic ce) (b + u) (y u)) → ∃ ic' ce', F f v (zq_cw2 M ic ce) = K (zq_cw2 M ic' ce') ∧ (∀ u : Nat, v ≤ u → u < W → zq_cE (zq_cw2 M ic' ce') (d + u) (zq_opO g (x u) (y u))) ∧ (∀ j, (j < d + v ∨ d + W ≤ j) → ic' j = ic j ∧ ce' j = ce j)
  | m, 0, v, ic, ce => by omega
  | 0, f + 1, v, ic, ce => by
    intro hm hf hc
    have : v = W := by omega
    subst this
    exact ⟨ic, ce, hE f ic ce, fun u h1 h2 => by omega, fun _ _ => ⟨rfl, rfl⟩⟩
  | m + 1, f + 1, v, ic, ce => by
    intro hm hf hc
    obtain ⟨c1, c2⟩ := hc v (Nat.le_refl _) (by omega)
    obtain ⟨ic1, ce1, j1, j2, j3⟩ := zq_r_join hg (d := d + v) (a := a + v) (b := b + v) (by omega) (by omega) (by omega) c1 c2
    have j1' : s_Mo_join (zq_cw2 M ic ce) g (d + v) (a + v) (b + v) = some ((), zq_cw2 M ic1 ce1) := j1
    have mv : ∀ (j : Int) (o : Option Int64), j ≠ d + v → zq_cE (zq_cw2 M ic ce) j o → zq_cE (zq_cw2 M ic1 ce1) j o := fun j o hj h => zq_cE_c h (j3 j hj).1 (j3 j hj).2
    obtain ⟨ic', ce', i1, i2, i3⟩ := zq_E_row hg hd ha hb F K hF hE m f (v + 1) ic1 ce1 (by omega) (by omega) (fun u h1 h2 => ⟨mv _ _ (by omega) (hc u (by omega) h2).1, mv _ _ (by omega) (hc u (by omega) h2).2⟩)
    rw [show ((v + 1 : Nat) : Int) = (v : Int) + 1 by omega] at i1 i3
    refine ⟨ic', ce', ?_, fun u h1 h2 => ?_, fun j hj => ?_⟩
    · rw [hF f v ic ce (by omega), zq_mb2_eq j1', i1]
    · by_cases z : u = v
      · subst z
        have q := i3 (d + u) (by left; omega)
        exact zq_cE_c j2 q.1 q.2
      · exact i2 u (by omega) h2
    · have q1 := i3 j (by omega); have q2 := j3 j (by omega)
      exact ⟨q1.1.trans q2.1, q1.2.trans q2.2⟩
set_option maxRecDepth 100000 in
theorem zq_cellAt_eq {S : MS} {P : Int} (hP : 0 ≤ P ∧ P < 21) (r v : Int) : s_Mo_cellAt S P r v = some (S.m_starts P + r * S.m_windows + v, S) := by rw [s_Mo_cellAt, if_pos hP]
set_option maxRecDepth 100000 in
/-- an operation with a table without names at the right -/
theorem zq_E_o49 {M : MS} (hW : M.m_windows = W ∧ 1 ≤ W ∧ W ≤ 64) {g : Int} (hg : zq_bsg g) {P : Int} (hP : 0 ≤ P ∧ P + 1 < 20) {R : Nat} (hR : M.m_tableRows P = R ∧ R ≤ 256) (hB : M.m_tableRows (P + 1) = 1) {f : Nat → Nat → Option Int64} {y : Nat → Option Int64} (hst : 0 ≤ M.m_starts P ∧ M.m_starts P + R * W ≤ M.m_starts (P + 1) ∧ M.m_starts (P + 1) + W ≤ 327680) : ∀ (m fu r : Nat) (ic : Int → Int) (ce : Int → Int64), r + m = R → m < fu → (∀ q v : Nat, r ≤ q → q < R → v < W → zq_cE (zq_cw2 M ic ce) (M.m_starts P + q * W + v) (f q v)) → (∀ v : Nat, v < W → zq_cE (zq_cw2 M ic ce) (M.m_starts (P + 1) + v) (y v)) → ∃ ic' ce', q_Mo_operate_49 fu g P (P + 1) r (zq_cw2 M ic ce) = q_Mo_operate_182 P (MS.w_m_tableRows (zq_cw2 M ic' ce') (aU M.m_tableRows P R)) ∧ (∀ q v : Nat, r ≤ q → q < R → v < W → zq_cE (zq_cw2 M ic' ce') (M.m_starts P + q * W + v) (zq_opO g (f q v) (y v))) ∧ (∀ j, (j < M.m_starts P + r * W ∨ M.m_starts P + R * W ≤ j) → ic' j = ic j ∧ ce' j = ce j)
  | m, 0, r, ic, ce => by omega
  | m, fu + 1, r, ic, ce => by
    intro hm hf hc hy
    have e1 : (zq_cw2 M ic ce).m_tableRows P = R := hR.1
    have e2 : (zq_cw2 M ic ce).m_tableRows (P + 1) = 1 := hB
    rw [q_Mo_operate_49, if_pos ⟨by omega, by omega⟩, e1, zq_w32i (z := (R : Int)) (by omega) (by omega), zq_w32i (z := (r : Int)) (by omega) (by omega)]
    cases m with
    | zero =>
      have hr : r = R := by omega
      subst hr
      rw [if_pos (by omega), if_pos ⟨by omega, by omega⟩, e2, if_neg (by decide), if_pos ⟨by omega, by omega⟩, q_Mo_operate_151, if_pos ⟨by omega, by omega⟩]
      exact ⟨ic, ce, rfl, fun q v h1 h2 => by omega, fun _ _ => ⟨rfl, rfl⟩⟩
    | succ m =>
      rw [if_neg (by omega)]
      have hub : (r : Int) * W + W ≤ R * W := by
        have : ((r : Int) + 1) * W ≤ R * W := Int.mul_le_mul_of_nonneg_right (by omega) (by omega)
        rw [Int.add_mul] at this; omega
      have hnn : 0 ≤ (r : Int) * W := Int.mul_nonneg (by omega) (by omega)
      have hs : ((r : Int) + 1) * W = r * W + W := by rw [Int.add_mul]; omega
      obtain ⟨ic1, ce1, a1, a2, a3⟩ := zq_E_row (M := M) (W := W) hg (d := M.m_starts P + r * W) (a := M.m_starts P + r * W) (b := M.m_starts (P + 1)) (by omega) (by omega) (by omega) (x := f r) (y := y) (fun k v S => q_Mo_operate_63 (q_Mo_operate_49 fu) k g P (P + 1) r v S) (fun S => q_Mo_operate_49 fu g P (P + 1) ((r : Int) + 1) S) (fun k v ic ce hv => by
          have w1 : (zq_cw2 M ic ce).m_windows = W := hW.1
          have w2 : (zq_cw2 M ic ce).m_tableRows (P + 1) = 1 := hB
          show q_Mo_operate_63 (q_Mo_operate_49 fu) (k + 1) g P (P + 1) r v (zq_cw2 M ic ce) = _
          rw [q_Mo_operate_63, w1, zq_w32i (z := (W : Int)) (by omega) (by omega), zq_w32i (z := (v : Int)) (by omega) (by omega), if_neg (by omega), if_pos ⟨by omega, by omega⟩, w2, if_neg (by decide), zq_mb2_eq (zq_cellAt_eq ⟨by omega, by omega⟩ _ _), zq_mb2_eq (zq_cellAt_eq ⟨by omega, by omega⟩ _ _), zq_mb2_eq (zq_cellAt_eq ⟨by omega, by omega⟩ _ _), w1]
          rw [show (zq_cw2 M ic ce).m_starts (P + 1) + 0 * (W : Int) + v = M.m_starts (P + 1) + v by show M.m_starts (P + 1) + 0 * (W : Int) + v = _; omega]
          rfl) (fun k ic ce => by
          have w1 : (zq_cw2 M ic ce).m_windows = W := hW.1
          show q_Mo_operate_63 (q_Mo_operate_49 fu) (k + 1) g P (P + 1) r (W : Int) (zq_cw2 M ic ce) = _
          rw [q_Mo_operate_63, w1, if_pos (Int.le_refl _), q_Mo_operate_120]) W fU 0 ic ce (by omega) (zq_fU_gt (by omega)) (fun u h1 h2 => ⟨hc r u (Nat.le_refl _) (by omega) h2, hy u h2⟩)
      have a1 : q_Mo_operate_63 (q_Mo_operate_49 fu) fU g P (P + 1) r ((0 : Nat) : Int) (zq_cw2 M ic ce) = q_Mo_operate_49 fu g P (P + 1) ((r : Int) + 1) (zq_cw2 M ic1 ce1) := a1
      rw [show ((0 : Nat) : Int) = 0 from rfl] at a1 a3
      obtain ⟨ic', ce', i1, i2, i3⟩ := zq_E_o49 hW hg hP hR hB (f := f) (y := y) hst m fu (r + 1) ic1 ce1 (by omega) (by omega) (fun q v h1 h2 h3 => by
          have hge : (r : Int) * W + W ≤ q * W := by
            have : ((r : Int) + 1) * W ≤ q * W := Int.mul_le_mul_of_nonneg_right (by omega) (by omega)
            rw [Int.add_mul] at this; omega
          have o := a3 (M.m_starts P + q * W + v) (by right; omega)
          exact zq_cE_c (hc q v (by omega) h2 h3) o.1 o.2) (fun v hv => by
          have o := a3 (M.m_starts (P + 1) + v) (by right; omega)
          exact zq_cE_c (hy v hv) o.1 o.2)
      rw [show ((r + 1 : Nat) : Int) = (r : Int) + 1 by omega] at i1 i3
      rw [hs] at i3
      refine ⟨ic', ce', a1.trans i1, fun q v h1 h2 h3 => ?_, fun j hj => ?_⟩
      · by_cases z : q = r
        · subst z
          have o := i3 (M.m_starts P + q * W + v) (by left; omega)
          exact zq_cE_c (a2 v (by omega) h3) o.1 o.2
        · exact i2 q v (by omega) h2 h3
      · have o1 := i3 j (by omega); have o2 := a3 j (by omega)
        exact ⟨o1.1.trans o2.1, o1.2.trans o2.2⟩
set_option maxRecDepth 100000 in
/-- with an empty table at the right nothing is left -/
theorem zq_E_o49e {M : MS} (hW : M.m_windows = W ∧ 1 ≤ W ∧ W ≤ 64) {g P : Int} (hP : 0 ≤ P ∧ P + 1 < 20) {R : Nat} (hR : M.m_tableRows P = R ∧ R ≤ 256) (hB : M.m_tableRows (P + 1) = 0) : ∀ (m fu r : Nat), r + m = R → m < fu → q_Mo_operate_49 fu g P (P + 1) r M = q_Mo_operate_182 P (MS.w_m_tableRows M (aU M.m_tableRows P 0))
  | m, 0, r => by omega
  | m, fu + 1, r => by
    intro hm hf
    rw [q_Mo_operate_49, if_pos ⟨by omega, by omega⟩, hR.1, zq_w32i (z := (R : Int)) (by omega) (by omega), zq_w32i (z := (r : Int)) (by omega) (by omega)]
    cases m with
    | zero =>
      rw [if_pos (by omega), if_pos ⟨by omega, by omega⟩, hB, if_pos (by decide), q_Mo_operate_151, if_pos ⟨by omega, by omega⟩]
    | succ m =>
      rw [if_neg (by omega), show fU = 999999 + 1 from rfl, q_Mo_operate_63, hW.1, zq_w32i (z := (W : Int)) (by omega) (by omega), show w32 0 = 0 by decide, if_neg (by omega), if_pos ⟨by omega, by omega⟩, hB, if_pos (by decide), q_Mo_operate_120]
      have := zq_E_o49e hW (g := g) hP hR hB m fu (r + 1) (by omega) (by omega)
      rw [show ((r + 1 : Nat) : Int) = (r : Int) + 1 by omega] at this
      exact this
set_option maxRecDepth 100000 in
/-- what the two upper tables are -/
theorem zq_J_two {M : MS} {st : List zq_Tbl} {a b : zq_Tbl} (h : zq_JR T n lb N pts fr wd W M (b :: a :: st)) : M.m_pile = (st.length : Int) + 2 ∧ zq_TbR T n lb N W M st.length a ∧ zq_TbR T n lb N W M ((st.length : Int) + 1) b ∧ M.m_starts ((st.length : Int) + 1) = M.m_starts st.length + M.m_tableRows st.length * W := by
  have hp : M.m_pile = (st.length : Int) + 2 := by have := h.2.1; simp at this; omega
  have q1 := h.2.2.2 [b] a st rfl
  have q2 := h.2.2.2 [] b (a :: st) rfl
  rw [show (((a :: st).length : Nat) : Int) = (st.length : Int) + 1 by simp] at q2
  exact ⟨hp, q1.1, q2.1, q1.2⟩
set_option maxRecDepth 100000 in
theorem zq_r_opRight {M : MS} {st : List zq_Tbl} {a b : zq_Tbl} (h : zq_JR T n lb N pts fr wd W M (b :: a :: st)) (hh : st.length ≤ 17) {g : Int} (hg : zq_bsg g) (ha : a.1 ≠ []) (hb : b.1 = []) : ∃ M', q_Mo_operate_49 fU g st.length ((st.length : Int) + 1) 0 M = some (1, M') ∧ zq_JR T n lb N pts fr wd W M' (zq_joinT g a b :: st) ∧ zq_AF M M' := by
  obtain ⟨hp, ⟨a1, a2, ks, sr, a3, a4, a5, a6, a7, a8⟩, ⟨b1, b2, kb, sb, b3, b4, b5, b6, b7, b8⟩, hst⟩ := zq_J_two h
  have hW := h.1.1
  have hs := zq_J_st h st.length (by simp; omega)
  have hs1 := zq_J_st h (st.length + 1) (by simp)
  have hRW2 : (ks.length : Int) * W ≤ 16384 := by
    have := Int.mul_le_mul_of_nonneg_right (a := (ks.length : Int)) (b := 256) (c := (W : Int)) (by omega) (by omega)
    omega
  have hRW0 : 0 ≤ (ks.length : Int) * W := Int.mul_nonneg (by omega) (by omega)
  rw [show ((st.length + 1 : Nat) : Int) = (st.length : Int) + 1 by omega] at hs1
  rw [a3.1] at hst
  have jn : (zq_joinT g a b).1 = a.1 := by unfold zq_joinT; rw [if_neg ha]
  have jf : ∀ k v, (zq_joinT g a b).2 k v = zq_opO g (a.2 k v) (b.2 [] v) := fun k v => by
    unfold zq_joinT; simp only; rw [if_neg (fun z => ha z.1), if_neg ha, if_pos hb]
  have zq_op0 : ∀ x y, zq_opO g x y ≠ none → x ≠ none ∧ y ≠ none := by
    intro x y hxy
    constructor
    · rintro rfl; exact hxy (by unfold zq_opO; rfl)
    · rintro rfl; cases x <;> exact hxy (by unfold zq_opO; rfl)
  have hm : ∀ k, (∃ v, v < W ∧ (zq_joinT g a b).2 k v ≠ none) → k ∈ ks := by
    rintro k ⟨v, v1, v2⟩
    rw [jf] at v2
    exact (a7 k).mpr ⟨v, v1, (zq_op0 _ _ v2).1⟩
  have kb0 : kb = [] ∨ kb = [[]] := by
    cases kb with
    | nil => exact Or.inl rfl
    | cons x r =>
      right
      have hx : x = [] := by have := b5 x (by simp); rw [hb] at this; exact List.eq_nil_of_length_eq_zero this
      cases r with
      | nil => rw [hx]
      | cons y r =>
        have hy : y = [] := by have := b5 y (by simp); rw [hb] at this; exact List.eq_nil_of_length_eq_zero this
        rw [List.pairwise_cons] at b4
        have := b4.1 y (by simp)
        rw [hx, hy] at this
        exact absurd this (by decide)
  rcases kb0 with rfl | rfl
  · -- the right table is empty
    have e := zq_E_o49e (M := M) ⟨hW.1, hW.2.1, hW.2.2⟩ (g := g) (P := (st.length : Int)) (by omega) (R := ks.length) a3 b3.1 ks.length fU 0 (by omega) (zq_fU_gt (by omega))
    rw [show ((0 : Nat) : Int) = 0 from rfl] at e
    have hnone : ∀ v, v < W → b.2 [] v = none := fun v hv => by
      cases hq : b.2 [] v with
      | none => rfl
      | some x => have := (b7 []).mpr ⟨v, hv, by rw [hq]; simp⟩; simp at this
    obtain ⟨M', m1, m2, m3⟩ := zq_r_opEnd (t := zq_joinT g a b) h hh (M1 := MS.w_m_tableRows M (aU M.m_tableRows st.length 0)) rfl rfl ⟨rfl, rfl, rfl, rfl⟩ (fun j _ => rfl) (fun j hj => ⟨rfl, zq_aU_ne _ _ _ _ (by omega)⟩) (fun j _ => ⟨rfl, rfl⟩) (fun j _ => rfl) (fun j _ => ⟨rfl, rfl⟩) (by rw [jn]; exact a1) (by rw [jn]; exact a2) (ks := []) (sr := sr) ⟨by show aU M.m_tableRows st.length 0 st.length = _; rw [zq_aU_at]; rfl, by simp⟩ (by simp) (by simp) (fun r k hk => by simp at hk) (fun k hk => by
      obtain ⟨v, v1, v2⟩ := hk
      rw [jf, hnone v v1] at v2
      exact absurd rfl (zq_op0 _ _ v2).2) (fun _ k hk => by simp at hk)
    exact ⟨M', by rw [e]; exact m1, m2, m3⟩
  · obtain ⟨ic, ce, e1, e2, e3⟩ := zq_E_o49 (M := M) ⟨hW.1, hW.2.1, hW.2.2⟩ hg (P := (st.length : Int)) (by omega) (R := ks.length) a3 (by rw [b3.1]; rfl) (f := fun r v => a.2 (ks.getD r []) v) (y := fun v => b.2 [] v) (by omega) ks.length fU 0 M.m_isCell M.m_cells (by omega) (zq_fU_gt (by omega)) (fun q v _ hq hv => by
        have hk : ks[q]? = some (ks.getD q []) := by rw [List.getD_eq_getElem?_getD, List.getElem?_eq_getElem hq]; rfl
        exact (a6 q _ hk).1 v hv) (fun v hv => by
        have := (b6 0 [] rfl).1 v hv
        rw [show M.m_starts ((st.length : Int) + 1) + ((0 : Nat) : Int) * W + v = M.m_starts ((st.length : Int) + 1) + v by simp] at this
        exact this)
    rw [show ((0 : Nat) : Int) = 0 from rfl, show zq_cw2 M M.m_isCell M.m_cells = M from rfl] at e1
    rw [show ((0 : Nat) : Int) * W = 0 by simp] at e3
    have eaU : aU M.m_tableRows (st.length : Int) (ks.length : Int) = M.m_tableRows := by
      funext j; unfold aU; split
      · rename_i z; rw [z, a3.1]
      · rfl
    rw [eaU] at e1
    obtain ⟨M', m1, m2, m3⟩ := zq_r_opEnd (t := zq_joinT g a b) h hh (M1 := zq_cw2 M ic ce) rfl rfl ⟨rfl, rfl, rfl, rfl⟩ (fun j _ => rfl) (fun j hj => ⟨rfl, rfl⟩) (fun j _ => ⟨rfl, rfl⟩) (fun j _ => rfl) (fun j hj => e3 j (by left; omega)) (by rw [jn]; exact a1) (by rw [jn]; exact a2) (ks := ks) (sr := sr) a3 a4 (by rw [jn]; exact a5) (fun r k hk => by
      have hr : r < ks.length := (List.getElem?_eq_some_iff.mp hk).1
      refine ⟨fun v hv => ?_, (a6 r k hk).2⟩
      have q := e2 r v (by omega) hr hv
      have eg : ks.getD r [] = k := by rw [List.getD_eq_getElem?_getD, hk]; rfl
      rw [jf]
      rw [eg] at q; exact q) hm (by rw [jn]; exact a8)
    exact ⟨M', e1.trans m1, m2, m3⟩
end
section
variable {T : Int → Int} {n w : Int} {lb : Nat → zq_LB} {N : Nat} {pts : List zq_P4} {fr wd : Int64} {W : Nat}
set_option maxRecDepth 100000 in
def zq_mtw (M : MS) (ic : Int → Int) (ce : Int → Int64) (rs : Int → Int) (vl : Int) : MS := MS.w_m_valueLength (zq_sw M ic ce rs) vl
set_option maxRecDepth 100000 in
theorem zq_op0 {g : Int} {x y : Option Int64} (hxy : zq_opO g x y ≠ none) : x ≠ none ∧ y ≠ none := by
  constructor
  · rintro rfl; exact hxy (by unfold zq_opO; rfl)
  · rintro rfl; cases x <;> exact hxy (by unfold zq_opO; rfl)
set_option maxRecDepth 100000 in
/-- the looked-for row of the right table -/
theorem zq_E_mt20 {M : MS} (h : zq_MB T n w M) (hc : zq_CX lb N pts fr wd W M) {g P : Int} (hP : 0 ≤ P ∧ P + 1 < 20) {na nb : List zq_NM} (hx : zq_NX M P na) (ho : zq_okN n na) (hsame : na.map (zq_nmx T) = nb.map (zq_nmx T)) {kb : List zq_Key} {sb : zq_Key → Int} (hRb : M.m_tableRows (P + 1) = kb.length ∧ kb.length ≤ 256) (hlb : ∀ k ∈ kb, k.length = nb.length) (hsb : nb ≠ [] → ∀ k ∈ kb, ∃ i : Nat, i < N ∧ sb k = i ∧ zq_keyOf T lb nb i = k) (K : Int → Int → Int → Int → Int → MS → Option (Unit × MS)) {k0 : zq_Key} (hk0 : k0.length = na.length) {s0 : Int} (hs0 : na ≠ [] → ∃ i : Nat, i < N ∧ s0 = i ∧ zq_keyOf T lb na i = k0) (ic : Int → Int) (ce : Int → Int64) {rs : Int → Int} (v4 : Int) {r5 : Nat} (hr5 : r5 < 256) (hrs0 : rs (256 * P + r5) = s0) (hrsb : ∀ (r : Nat) (k : zq_Key), kb[r]? = some k → rs (256 * (P + 1) + r) = sb k) : ∀ (f q : Nat) (vl : Int), q ≤ kb.length → kb.length - q < f → (∀ q' k, q' < q → kb[q']? = some k → k ≠ k0) → ∃ (q0 : Nat) (vl' : Int), q0 ≤ kb.length ∧ (∀ q' k, q' < q0 → kb[q']? = some k → k ≠ k0) ∧ (∀ k, kb[q0]? = some k → k = k0) ∧ q_Mo_meet_20 K f g P (P + 1) v4 r5 q (zq_mtw M ic ce rs vl) = q_Mo_meet_71 K g P (P + 1) v4 r5 q0 (zq_mtw M ic ce rs vl')
  | 0, q, vl => by omega
  | f + 1, q, vl => by
    intro hq hf hne
    have e1 : (zq_mtw M ic ce rs vl).m_tableRows (P + 1) = kb.length := hRb.1
    rw [q_Mo_meet_20, if_pos ⟨by omega, by omega⟩, e1, zq_w32i (z := (kb.length : Int)) (by omega) (by omega), zq_w32i (z := (q : Int)) (by omega) (by omega)]
    by_cases c1 : kb.length ≤ q
    · rw [if_pos (by omega)]
      exact ⟨q, vl, hq, hne, (fun k hk => by rw [List.getElem?_eq_none c1] at hk; cases hk), rfl⟩
    · have hkq : kb[q]? = some (kb[q]'(by omega)) := List.getElem?_eq_getElem _
      have hrb := hrsb q _ hkq
      have hmem := List.mem_of_getElem? hkq
      rw [if_neg (by omega), if_pos ⟨by omega, by omega⟩, if_pos ⟨by omega, by omega⟩]
      have e2 : (zq_mtw M ic ce rs vl).m_rowSeries (256 * P + r5) = s0 := hrs0
      have e3 : (zq_mtw M ic ce rs vl).m_rowSeries (256 * (P + 1) + q) = sb (kb[q]'(by omega)) := hrb
      rw [e2, e3]
      have cmp : ∃ res vl2, s_Mo_compareRows (zq_mtw M ic ce rs vl) P s0 (sb (kb[q]'(by omega))) = some (res, zq_mtw M ic ce rs vl2) ∧ (-1000 ≤ res ∧ res ≤ 1000) ∧ (res = 0 ↔ kb[q]'(by omega) = k0) := by
        by_cases cn : na = []
        · have hnb : nb = [] := by
            rw [cn] at hsame; simp at hsame; exact hsame
          have e0 : (zq_mtw M ic ce rs vl).m_tableNames P = 0 := by
            show M.m_tableNames P = 0; rw [hx.1, cn]; rfl
          refine ⟨0, vl, zq_r_compareRows0 (by omega) e0 _ _, by omega, ⟨fun _ => ?_, fun _ => rfl⟩⟩
          have l1 := hlb _ hmem
          rw [hnb] at l1; rw [cn] at hk0
          rw [List.eq_nil_of_length_eq_zero l1, List.eq_nil_of_length_eq_zero hk0]
        · have hnb : nb ≠ [] := fun z => cn (by rw [z] at hsame; simpa using hsame)
          obtain ⟨i, i1, i2, i3⟩ := hs0 cn
          obtain ⟨j, j1, j2, j3⟩ := hsb hnb _ hmem
          obtain ⟨res, vl2, r1, r2, r3, r4, r5'⟩ := zq_r_compareRows (P := P) (by omega) ho i1 j1 (M := zq_mtw M ic ce rs vl) h (zq_CX_KF hc rfl) hx
          rw [i2, j2]
          refine ⟨res, vl2, r1, ⟨r2, r3⟩, ?_⟩
          have ekey : zq_keyOf T lb na j = zq_keyOf T lb nb j := by
            unfold zq_keyOf
            have : na.map (fun x => zq_vOf (lb (j : Int).toNat) (zq_nmx T x)) = (na.map (zq_nmx T)).map (zq_vOf (lb (j : Int).toNat)) := by rw [List.map_map]; rfl
            rw [this, hsame, List.map_map]; rfl
          rw [r5', i3, ekey, j3]
          exact ⟨fun z => z.symm, fun z => z.symm⟩
      obtain ⟨res, vl2, r1, r2, r3⟩ := cmp
      rw [zq_mb2_eq r1, zq_w32i (z := res) (by omega) (by omega)]
      by_cases c2 : res = 0
      · rw [if_pos c2]
        exact ⟨q, vl2, hq, hne, (fun k hk => by rw [hkq] at hk; cases hk; exact r3.mp c2), rfl⟩
      · rw [if_neg c2]
        have ih := zq_E_mt20 h hc (g := g) hP hx ho hsame hRb hlb hsb K hk0 hs0 ic ce (rs := rs) v4 hr5 hrs0 hrsb f (q + 1) vl2 (by omega) (by omega) (fun q' k h1 h2 => by
          by_cases z : q' = q
          · subst z; rw [hkq] at h2; cases h2; exact fun y => c2 (r3.mpr y)
          · exact hne q' k (by omega) h2)
        rw [show ((q + 1 : Nat) : Int) = (q : Int) + 1 by omega] at ih
        exact ih
set_option maxRecDepth 100000 in
theorem zq_E_mt6 {M : MS} (h : zq_MB T n w M) (hc : zq_CX lb N pts fr wd W M) {g : Int} (hg : zq_bsg g) {P : Int} (hP : 0 ≤ P ∧ P + 1 < 20) {na nb : List zq_NM} (hx : zq_NX M P na) (ho : zq_okN n na) (hsame : na.map (zq_nmx T) = nb.map (zq_nmx T)) {zq_ka kb : List zq_Key} {sa sb : zq_Key → Int} (hRa : M.m_tableRows P = zq_ka.length ∧ zq_ka.length ≤ 256) (hRb : M.m_tableRows (P + 1) = kb.length ∧ kb.length ≤ 256) (hla : ∀ k ∈ zq_ka, k.length = na.length) (hlb : ∀ k ∈ kb, k.length = nb.length) (hsa : na ≠ [] → ∀ k ∈ zq_ka, ∃ i : Nat, i < N ∧ sa k = i ∧ zq_keyOf T lb na i = k) (hsb : nb ≠ [] → ∀ k ∈ kb, ∃ i : Nat, i < N ∧ sb k = i ∧ zq_keyOf T lb nb i = k) {fa fb : zq_Tf} (hst : 0 ≤ M.m_starts P ∧ M.m_starts P + zq_ka.length * W ≤ M.m_starts (P + 1) ∧ M.m_starts (P + 1) + kb.length * W ≤ 327680) : ∀ (rest : List zq_Key) (r5 f : Nat) (kept : List zq_Key) (ic : Int → Int) (ce : Int → Int64) (rs : Int → Int) (vl : Int), zq_ka.drop r5 = rest → r5 + rest.length = zq_ka.length → kept.length ≤ r5 → rest.length < f →
    (∀ (r : Nat) (k : zq_Key), kept[r]? = some k → (∀ v : Nat, v < W → zq_cE (zq_sw M ic ce rs) (M.m_starts P + r * W + v) (zq_opO g (fa k v) (fb k v))) ∧ rs (256 * P + r) = sa k) → (∀ (r : Nat) (k : zq_Key), r5 ≤ r → zq_ka[r]? = some k → (∀ v : Nat, v < W → zq_cE (zq_sw M ic ce rs) (M.m_starts P + r * W + v) (fa k v)) ∧ rs (256 * P + r) = sa k) → (∀ (r : Nat) (k : zq_Key), kb[r]? = some k → (∀ v : Nat, v < W → zq_cE (zq_sw M ic ce rs) (M.m_starts (P + 1) + r * W + v) (fb k v)) ∧ rs (256 * (P + 1) + r) = sb k) →
    ∃ ic' ce' rs' vl', q_Mo_meet_6 f g P (P + 1) kept.length r5 (zq_mtw M ic ce rs vl) = some ((), MS.w_m_tableRows (zq_mtw M ic' ce' rs' vl') (aU M.m_tableRows P ((kept ++ rest.filter (fun k => kb.contains k)).length : Int))) ∧ (∀ (r : Nat) (k : zq_Key), (kept ++ rest.filter (fun k => kb.contains k))[r]? = some k → (∀ v : Nat, v < W → zq_cE (zq_sw M ic' ce' rs') (M.m_starts P + r * W + v) (zq_opO g (fa k v) (fb k v))) ∧ rs' (256 * P + r) = sa k) ∧ (∀ j, j < M.m_starts P → ic' j = ic j ∧ ce' j = ce j) ∧ (∀ j, j < 256 * P → rs' j = rs j)
  | rest, r5, 0, kept, ic, ce, rs, vl => by omega
  | [], r5, f + 1, kept, ic, ce, rs, vl => by
    intro h1 h2 h3 h4 h5 h6 h7
    simp only [List.length_nil, Nat.add_zero] at h2
    have e1 : (zq_mtw M ic ce rs vl).m_tableRows P = zq_ka.length := hRa.1
    refine ⟨ic, ce, rs, vl, ?_, ?_, fun _ _ => ⟨rfl, rfl⟩, fun _ _ => rfl⟩
    · rw [q_Mo_meet_6, if_pos ⟨by omega, by omega⟩, e1, if_pos (by rw [h2]; exact Int.le_refl _), if_pos ⟨by omega, by omega⟩, List.filter_nil, List.append_nil]; rfl
    · rw [List.filter_nil, List.append_nil]; exact h5
  | k :: rest, r5, f + 1, kept, ic, ce, rs, vl => by
    intro h1 h2 h3 h4 h5 h6 h7
    simp only [List.length_cons] at h2 h4
    have hW := hc.1
    have hk : zq_ka[r5]? = some k := by
      have : (zq_ka.drop r5)[0]? = some k := by rw [h1]; rfl
      rw [List.getElem?_drop] at this; simpa using this
    have hkm := List.mem_of_getElem? hk
    have edrop : zq_ka.drop (r5 + 1) = rest := by rw [← List.drop_drop, h1]; rfl
    have e1 : (zq_mtw M ic ce rs vl).m_tableRows P = zq_ka.length := hRa.1
    have hrow := h6 r5 k (Nat.le_refl _) hk
    obtain ⟨q0, vl1, s1, s2, s3, s4⟩ := zq_E_mt20 h hc (g := g) hP hx ho hsame hRb hlb hsb (q_Mo_meet_6 f) (hla k hkm) (fun z => hsa z k hkm) ic ce (rs := rs) (kept.length : Int) (r5 := r5) (by omega) hrow.2 (fun r k' hk' => (h7 r k' hk').2) fU 0 vl (by omega) (zq_fU_gt (by omega)) (fun q' k' hq' => by omega)
    rw [show ((0 : Nat) : Int) = 0 from rfl] at s4
    rw [q_Mo_meet_6, if_pos ⟨by omega, by omega⟩, e1, zq_w32i (z := (zq_ka.length : Int)) (by omega) (by omega), zq_w32i (z := (r5 : Int)) (by omega) (by omega), if_neg (by omega), s4]
    have e2 : (zq_mtw M ic ce rs vl1).m_tableRows (P + 1) = kb.length := hRb.1
    rw [q_Mo_meet_71, if_pos ⟨by omega, by omega⟩, e2, zq_w32i (z := (q0 : Int)) (by omega) (by omega), zq_w32i (z := (kb.length : Int)) (by omega) (by omega)]
    by_cases c : (q0 : Int) = kb.length
    · have hno : ¬ (kb.contains k = true) := by
        intro z
        have z : k ∈ kb := by simpa using z
        obtain ⟨q', hq', eq'⟩ := List.mem_iff_getElem.mp z
        exact s2 q' k (by omega) (by rw [← eq']; exact List.getElem?_eq_getElem _) rfl
      rw [if_pos c, q_Mo_meet_164, List.filter_cons_of_neg hno]
      obtain ⟨ic', ce', rs', vl', i1, i2, i3, i4⟩ := zq_E_mt6 h hc hg hP hx ho hsame hRa hRb hla hlb hsa hsb hst rest (r5 + 1) f kept ic ce rs vl1 edrop (by omega) (by omega) (by omega) h5 (fun r k' hr hk' => h6 r k' (by omega) hk') h7
      rw [show ((r5 + 1 : Nat) : Int) = (r5 : Int) + 1 by omega] at i1
      exact ⟨ic', ce', rs', vl', i1, i2, i3, i4⟩
    · have hq0 : q0 < kb.length := by omega
      have hkq : kb[q0]? = some k := by
        rw [List.getElem?_eq_getElem hq0]; rw [s3 _ (List.getElem?_eq_getElem hq0)]
      have hyes : kb.contains k = true := by simpa using List.mem_of_getElem? hkq
      rw [if_neg c, List.filter_cons_of_pos hyes]
      -- the row
      have hub : (r5 : Int) * W + W ≤ zq_ka.length * W := by
        have : ((r5 : Int) + 1) * W ≤ zq_ka.length * W := Int.mul_le_mul_of_nonneg_right (by omega) (by omega)
        rw [Int.add_mul] at this; omega
      have hubb : (q0 : Int) * W + W ≤ kb.length * W := by
        have : ((q0 : Int) + 1) * W ≤ kb.length * W := Int.mul_le_mul_of_nonneg_right (by omega) (by omega)
        rw [Int.add_mul] at this; omega
      have hnn : 0 ≤ (q0 : Int) * W := Int.mul_nonneg (by omega) (by omega)
      have hnk : 0 ≤ (kept.length : Int) * W := Int.mul_nonneg (by omega) (by omega)
      have hkr : (kept.length : Int) * W ≤ r5 * W := Int.mul_le_mul_of_nonneg_right (by omega) (by omega)
      generalize hMr : MS.w_m_valueLength (MS.w_m_rowSeries M rs) vl1 = Mr
      have emt : ∀ ic ce, zq_mtw M ic ce rs vl1 = zq_cw2 Mr ic ce := fun ic ce => by rw [← hMr]; rfl
      have hrowb := h7 q0 k hkq
      obtain ⟨ic1, ce1, a1, a2, a3⟩ := zq_E_row (M := Mr) (W := W) hg (d := M.m_starts P + kept.length * W) (a := M.m_starts P + r5 * W) (b := M.m_starts (P + 1) + q0 * W) (by omega) (by omega) (by omega) (x := fa k) (y := fb k) (fun f' v S => q_Mo_meet_88 (q_Mo_meet_6 f) f' g P (P + 1) kept.length r5 q0 v S) (fun S => q_Mo_meet_6 f g P (P + 1) ((kept.length : Int) + 1) ((r5 : Int) + 1) (MS.w_m_rowSeries S (aU S.m_rowSeries (256 * P + kept.length) (S.m_rowSeries (256 * P + r5))))) (fun f' v ic ce hv => by
          have w1 : (zq_cw2 Mr ic ce).m_windows = W := by rw [← hMr]; exact hW.1
          have w2 : (zq_cw2 Mr ic ce).m_starts = M.m_starts := by rw [← hMr]; rfl
          show q_Mo_meet_88 (q_Mo_meet_6 f) (f' + 1) g P (P + 1) kept.length r5 q0 v (zq_cw2 Mr ic ce) = _
          rw [q_Mo_meet_88, w1, zq_w32i (z := (W : Int)) (by omega) (by omega), zq_w32i (z := (v : Int)) (by omega) (by omega), if_neg (by omega), zq_mb2_eq (zq_cellAt_eq ⟨by omega, by omega⟩ _ _), zq_mb2_eq (zq_cellAt_eq ⟨by omega, by omega⟩ _ _), zq_mb2_eq (zq_cellAt_eq ⟨by omega, by omega⟩ _ _), w1, w2]) (fun f' ic ce => by
          have w1 : (zq_cw2 Mr ic ce).m_windows = W := by rw [← hMr]; exact hW.1
          show q_Mo_meet_88 (q_Mo_meet_6 f) (f' + 1) g P (P + 1) kept.length r5 q0 (W : Int) (zq_cw2 Mr ic ce) = _
          rw [q_Mo_meet_88, w1, if_pos (Int.le_refl _), if_pos ⟨by omega, by omega⟩, if_pos ⟨by omega, by omega⟩, q_Mo_meet_164]) W fU 0 ic ce (by omega) (zq_fU_gt (by omega)) (fun u _ hu => ⟨zq_cE_c (hrow.1 u hu) rfl rfl, zq_cE_c (hrowb.1 u hu) rfl rfl⟩)
      have a1 : q_Mo_meet_88 (q_Mo_meet_6 f) fU g P (P + 1) kept.length r5 q0 ((0 : Nat) : Int) (zq_cw2 Mr ic ce) = q_Mo_meet_6 f g P (P + 1) ((kept.length : Int) + 1) ((r5 : Int) + 1) (MS.w_m_rowSeries (zq_cw2 Mr ic1 ce1) (aU (zq_cw2 Mr ic1 ce1).m_rowSeries (256 * P + kept.length) ((zq_cw2 Mr ic1 ce1).m_rowSeries (256 * P + r5)))) := a1
      rw [show ((0 : Nat) : Int) = 0 from rfl] at a1 a3
      have eend : MS.w_m_rowSeries (zq_cw2 Mr ic1 ce1) (aU (zq_cw2 Mr ic1 ce1).m_rowSeries (256 * P + kept.length) ((zq_cw2 Mr ic1 ce1).m_rowSeries (256 * P + r5))) = zq_mtw M ic1 ce1 (aU rs (256 * P + kept.length) (rs (256 * P + r5))) vl1 := by rw [← hMr]; rfl
      rw [eend] at a1
      rw [emt, a1]
      have mv : ∀ (j : Int) (o : Option Int64) (rs' : Int → Int), (j < M.m_starts P + kept.length * W ∨ M.m_starts P + kept.length * W + W ≤ j) → zq_cE (zq_sw M ic ce rs) j o → zq_cE (zq_sw M ic1 ce1 rs') j o := fun j o rs' hj hcell => zq_cE_c hcell (a3 j (by omega)).1 (a3 j (by omega)).2
      obtain ⟨ic', ce', rs', vl', i1, i2, i3, i4⟩ := zq_E_mt6 h hc hg hP hx ho hsame hRa hRb hla hlb hsa hsb hst rest (r5 + 1) f (kept ++ [k]) ic1 ce1 (aU rs (256 * P + kept.length) (rs (256 * P + r5))) vl1 edrop (by omega) (by simp; omega) (by omega) (fun r k' hk' => by
        by_cases z : r < kept.length
        · rw [List.getElem?_append_left z] at hk'
          have q := h5 r k' hk'
          refine ⟨fun v hv => ?_, by rw [zq_aU_ne _ _ _ _ (by omega)]; exact q.2⟩
          have hlt := zq_ix_lt (W := (W : Int)) (r := (r : Int)) (r' := (kept.length : Int)) (v := (v : Int)) (by omega) (by omega) (by omega)
          exact mv _ _ _ (by left; omega) (q.1 v hv)
        · have hl : r < (kept ++ [k]).length := (List.getElem?_eq_some_iff.mp hk').1
          simp at hl
          have : r = kept.length := by omega
          subst this
          rw [List.getElem?_append_right (Nat.le_refl _), Nat.sub_self] at hk'
          simp at hk'; subst hk'
          refine ⟨fun v hv => zq_cE_c (a2 v (by omega) hv) rfl rfl, by rw [zq_aU_at]; exact hrow.2⟩) (fun r k' hr hk' => by
          have q := h6 r k' (by omega) hk'
          have hrl : r < zq_ka.length := (List.getElem?_eq_some_iff.mp hk').1
          refine ⟨fun v hv => ?_, by rw [zq_aU_ne _ _ _ _ (by omega)]; exact q.2⟩
          have hge : (r5 : Int) * W + W ≤ r * W := by
            have : ((r5 : Int) + 1) * W ≤ r * W := Int.mul_le_mul_of_nonneg_right (by omega) (by omega)
            rw [Int.add_mul] at this; omega
          exact mv _ _ _ (by right; omega) (q.1 v hv)) (fun r k' hk' => by
          have q := h7 r k' hk'
          have hnr : 0 ≤ (r : Int) * W := Int.mul_nonneg (by omega) (by omega)
          refine ⟨fun v hv => mv _ _ _ (by right; omega) (q.1 v hv), by rw [zq_aU_ne _ _ _ _ (by omega)]; exact q.2⟩)
      have ek : kept ++ k :: rest.filter (fun k => kb.contains k) = kept ++ [k] ++ rest.filter (fun k => kb.contains k) := by simp
      rw [ek]
      rw [show (((kept ++ [k]).length : Nat) : Int) = (kept.length : Int) + 1 by simp, show ((r5 + 1 : Nat) : Int) = (r5 : Int) + 1 by omega] at i1
      refine ⟨ic', ce', rs', vl', i1, i2, fun j hj => ?_, fun j hj => ?_⟩
      · have o := a3 j (by omega)
        exact ⟨(i3 j hj).1.trans o.1, (i3 j hj).2.trans o.2⟩
      · rw [i4 j hj, zq_aU_ne _ _ _ _ (by omega)]
set_option maxRecDepth 100000 in
theorem zq_r_opMeet {M : MS} (hMB : zq_MB T n w M) {st : List zq_Tbl} {a b : zq_Tbl} (h : zq_JR T n lb N pts fr wd W M (b :: a :: st)) (hh : st.length ≤ 17) {g : Int} (hg : zq_bsg g) (hs : a.1.map (zq_nmx T) = b.1.map (zq_nmx T)) : ∃ M', mb2 (s_Mo_meet M g st.length ((st.length : Int) + 1)) (fun r48 S48 => q_Mo_operate_182 st.length S48) = some (1, M') ∧ zq_JR T n lb N pts fr wd W M' (zq_joinT g a b :: st) ∧ zq_AF M M' := by
  obtain ⟨hp, ⟨a1, a2, ks, sr, a3, a4, a5, a6, a7, a8⟩, ⟨b1, b2, kb, sb, b3, b4, b5, b6, b7, b8⟩, hst⟩ := zq_J_two h
  have hW := h.1.1
  have hst0 := zq_J_st h st.length (by simp; omega)
  have hst1 := zq_J_st h (st.length + 1) (by simp)
  rw [show ((st.length + 1 : Nat) : Int) = (st.length : Int) + 1 by omega] at hst1
  have hRW2 : (kb.length : Int) * W ≤ 16384 := by
    have := Int.mul_le_mul_of_nonneg_right (a := (kb.length : Int)) (b := 256) (c := (W : Int)) (by omega) (by omega)
    omega
  rw [a3.1] at hst
  obtain ⟨ic, ce, rs, vl, e1, e2, e3, e4⟩ := zq_E_mt6 hMB h.1 hg (P := (st.length : Int)) (by omega) a1 a2 hs a3 b3 a5 b5 a8 b8 (fa := a.2) (fb := b.2) (by omega) ks 0 fU [] M.m_isCell M.m_cells M.m_rowSeries M.m_valueLength (by simp) (by simp) (by simp) (zq_fU_gt (by omega)) (fun r k hk => by simp at hk) (fun r k _ hk => a6 r k hk) (fun r k hk => b6 r k hk)
  rw [List.nil_append] at e1 e2
  generalize hkx : ks.filter (fun k => kb.contains k) = kx at *
  have hkxl : kx.length ≤ ks.length := by rw [← hkx]; exact List.length_filter_le _ _
  have hmemx : ∀ k, k ∈ kx ↔ k ∈ ks ∧ k ∈ kb := fun k => by rw [← hkx, List.mem_filter]; simp
  have hne : (a.1 = [] ↔ b.1 = []) := by
    constructor
    · intro z; rw [z] at hs; simp at hs; exact hs
    · intro z; rw [z] at hs; simpa using hs
  have jn : (zq_joinT g a b).1 = a.1 := by
    unfold zq_joinT; simp only
    by_cases z : a.1 = []
    · rw [if_pos z, z]; exact hne.mp z
    · rw [if_neg z]
  have jf : ∀ k v, k.length = a.1.length → (zq_joinT g a b).2 k v = zq_opO g (a.2 k v) (b.2 k v) := fun k v hk => by
    unfold zq_joinT; simp only
    by_cases z : a.1 = []
    · have hk0 : k = [] := by rw [z] at hk; exact List.eq_nil_of_length_eq_zero hk
      rw [if_neg (by simp [hk0]), if_pos z, if_pos (hne.mp z), hk0]
    · rw [if_neg (fun y => z y.1), if_neg z, if_neg (fun y => z (hne.mpr y))]
  obtain ⟨M', m1, m2, m3⟩ := zq_r_opEnd (t := zq_joinT g a b) h hh (M1 := MS.w_m_tableRows (zq_mtw M ic ce rs vl) (aU M.m_tableRows (st.length : Int) (kx.length : Int))) rfl rfl ⟨rfl, rfl, rfl, rfl⟩ (fun j _ => rfl) (fun j hj => ⟨rfl, zq_aU_ne _ _ _ _ (by omega)⟩) (fun j _ => ⟨rfl, rfl⟩) (fun j hj => e4 j hj) (fun j hj => e3 j hj) (by rw [jn]; exact a1) (by rw [jn]; exact a2) (ks := kx) (sr := sr) ⟨by show aU M.m_tableRows (st.length : Int) _ (st.length : Int) = _; rw [zq_aU_at], by omega⟩ (by rw [← hkx]; exact a4.filter _) (fun k hk => by rw [jn]; exact a5 k ((hmemx k).mp hk).1) (fun r k hk => by
      obtain ⟨q1, q2⟩ := e2 r k hk
      have hkm := (hmemx k).mp (List.mem_of_getElem? hk)
      exact ⟨fun v hv => by rw [jf k v (a5 k hkm.1)]; exact q1 v hv, q2⟩) (fun k hk => by
      obtain ⟨v, v1, v2⟩ := hk
      unfold zq_joinT at v2; simp only at v2
      by_cases z : a.1 = []
      · by_cases zk : k = []
        · rw [if_neg (by simp [zk]), if_pos z, if_pos (hne.mp z)] at v2
          have := zq_op0 v2
          rw [hmemx, zk]
          exact ⟨(a7 []).mpr ⟨v, v1, this.1⟩, (b7 []).mpr ⟨v, v1, this.2⟩⟩
        · rw [if_pos ⟨z, hne.mp z, zk⟩] at v2; exact absurd rfl v2
      · rw [if_neg (fun y => z y.1), if_neg z, if_neg (fun y => z (hne.mpr y))] at v2
        have := zq_op0 v2
        rw [hmemx]
        exact ⟨(a7 k).mpr ⟨v, v1, this.1⟩, (b7 k).mpr ⟨v, v1, this.2⟩⟩) (by
      rw [jn]; intro z k hk; exact a8 z k ((hmemx k).mp hk).1)
  refine ⟨M', ?_, m2, m3⟩
  rw [s_Mo_meet]
  have e1' : q_Mo_meet_6 fU g (st.length : Int) ((st.length : Int) + 1) 0 0 M = some ((), MS.w_m_tableRows (zq_mtw M ic ce rs vl) (aU M.m_tableRows (st.length : Int) (kx.length : Int))) := e1
  rw [zq_mb2_eq e1']; exact m1
end
section
variable {T : Int → Int} {n w : Int} {lb : Nat → zq_LB} {N : Nat} {pts : List zq_P4} {fr wd : Int64} {W : Nat}
set_option maxRecDepth 100000 in
/-- the left table's row is laid behind -/
theorem zq_E_sp38 {M : MS} (hW : M.m_windows = W ∧ 1 ≤ W ∧ W ≤ 64) {g P : Int} (hP : 0 ≤ P ∧ P + 1 < 20) {t0 sc : Int} (ht : 1 ≤ t0 ∧ t0 ≤ 256) {d : Int} (hd : M.m_starts P = d) (hds : 0 ≤ d ∧ d + W ≤ sc ∧ sc + W ≤ 327680) : ∀ (m f v : Nat) (ic : Int → Int) (ce : Int → Int64), v + m = W → m < f → (∀ u : Nat, v ≤ u → u < W → ic (d + u) = 0 ∨ ic (d + u) = 1) → ∃ ic' ce', q_Mo_spread_38 f g P (P + 1) t0 sc v (zq_cw2 M ic ce) = q_Mo_spread_104 g P (P + 1) t0 sc (zq_cw2 M ic' ce') ∧ (∀ u : Nat, v ≤ u → u < W → ic' (sc + u) = ic (d + u) ∧ ce' (sc + u) = ce (d + u)) ∧ (∀ j, (j < sc + v ∨ sc + W ≤ j) → ic' j = ic j ∧ ce' j = ce j)
  | m, 0, v, ic, ce => by omega
  | m, f + 1, v, ic, ce => by
    intro hm hf h01
    have w1 : ∀ S : MS, S.m_windows = M.m_windows → S.m_starts = M.m_starts → s_Mo_cellAt S P 0 v = some (d + v, S) := fun S h1 h2 => by
      rw [zq_cellAt_eq ⟨by omega, by omega⟩, h2, hd]; congr 2; omega
    have e1 : (zq_cw2 M ic ce).m_windows = W := hW.1
    rw [q_Mo_spread_38, e1, zq_w32i (z := (W : Int)) (by omega) (by omega), zq_w32i (z := (v : Int)) (by omega) (by omega), zq_w32i (z := t0) (by omega) (by omega)]
    cases m with
    | zero => rw [if_pos (by omega)]; exact ⟨ic, ce, rfl, fun u h1 h2 => by omega, fun _ _ => ⟨rfl, rfl⟩⟩
    | succ m =>
      have gd : (0 : Int) ≤ d + v ∧ d + (v : Int) < 327680 := by omega
      have gs : (0 : Int) ≤ sc + v ∧ sc + (v : Int) < 327680 := by omega
      rw [if_neg (by omega), if_neg (by omega), zq_mb2_eq (w1 (zq_cw2 M ic ce) rfl rfl), if_pos gd, if_pos gs]
      have e2 := w1 (MS.w_m_cells (zq_cw2 M ic ce) (aU (zq_cw2 M ic ce).m_cells (sc + v) ((zq_cw2 M ic ce).m_cells (d + v)))) rfl rfl
      rw [zq_mb2_eq e2, if_pos gd, if_pos gs]
      rw [if_pos (show (MS.w_m_cells (zq_cw2 M ic ce) (aU (zq_cw2 M ic ce).m_cells (sc + v) ((zq_cw2 M ic ce).m_cells (d + v)))).m_isCell (d + v) = 0 ∨ (MS.w_m_cells (zq_cw2 M ic ce) (aU (zq_cw2 M ic ce).m_cells (sc + v) ((zq_cw2 M ic ce).m_cells (d + v)))).m_isCell (d + v) = 1 from h01 v (Nat.le_refl _) (by omega))]
      obtain ⟨ic', ce', i1, i2, i3⟩ := zq_E_sp38 hW (g := g) hP ht hd hds m f (v + 1) (aU ic (sc + v) (ic (d + v))) (aU ce (sc + v) (ce (d + v))) (by omega) (by omega) (fun u h1 h2 => by rw [zq_aU_ne _ _ _ _ (by omega)]; exact h01 u (by omega) h2)
      rw [show ((v + 1 : Nat) : Int) = (v : Int) + 1 by omega] at i1 i3
      refine ⟨ic', ce', i1, fun u h1 h2 => ?_, fun j hj => ?_⟩
      · by_cases z : u = v
        · subst z
          have o := i3 (sc + u) (by left; omega)
          rw [o.1, o.2, zq_aU_at, zq_aU_at]; exact ⟨rfl, rfl⟩
        · have o := i2 u (by omega) h2
          rw [o.1, o.2, zq_aU_ne _ _ _ _ (by omega), zq_aU_ne _ _ _ _ (by omega)]; exact ⟨rfl, rfl⟩
      · have o := i3 j (by omega)
        rw [o.1, o.2, zq_aU_ne _ _ _ _ (by omega), zq_aU_ne _ _ _ _ (by omega)]; exact ⟨rfl, rfl⟩
set_option maxRecDepth 100000 in
theorem zq_E_sp107 {M : MS} (hW : M.m_windows = W ∧ 1 ≤ W ∧ W ≤ 64) {g : Int} (hg : zq_bsg g) {P : Int} (hP : 0 ≤ P ∧ P + 1 < 20) {R : Nat} (hR : R ≤ 256) {x : Nat → Option Int64} {fb : Nat → Nat → Option Int64} {sc : Int} (hsc : sc = M.m_starts (P + 1) + R * W) (hst : 0 ≤ M.m_starts P ∧ M.m_starts (P + 1) = M.m_starts P + W ∧ sc + W ≤ 327680) : ∀ (m f r : Nat) (ic : Int → Int) (ce : Int → Int64), r + m = R → m < f → (∀ u : Nat, u < W → zq_cE (zq_cw2 M ic ce) (sc + u) (x u)) → (∀ q v : Nat, r ≤ q → q < R → v < W → zq_cE (zq_cw2 M ic ce) (M.m_starts (P + 1) + q * W + v) (fb q v)) → ∃ ic' ce', q_Mo_spread_107 f g P (P + 1) R sc r (zq_cw2 M ic ce) = q_Mo_spread_169 fU P (P + 1) R 0 (zq_cw2 M ic' ce') ∧ (∀ q v : Nat, r ≤ q → q < R → v < W → zq_cE (zq_cw2 M ic' ce') (M.m_starts P + q * W + v) (zq_opO g (x v) (fb q v))) ∧ (∀ j, (j < M.m_starts P + r * W ∨ M.m_starts P + R * W ≤ j) → ic' j = ic j ∧ ce' j = ce j)
  | m, 0, r, ic, ce => by omega
  | m, f + 1, r, ic, ce => by
    intro hm hf hx hb
    rw [q_Mo_spread_107, zq_w32i (z := (R : Int)) (by omega) (by omega), zq_w32i (z := (r : Int)) (by omega) (by omega)]
    cases m with
    | zero =>
      have : r = R := by omega
      subst this
      rw [if_pos (by omega)]; exact ⟨ic, ce, rfl, fun q v h1 h2 => by omega, fun _ _ => ⟨rfl, rfl⟩⟩
    | succ m =>
      rw [if_neg (by omega)]
      have hub : (r : Int) * W + W ≤ R * W := by
        have : ((r : Int) + 1) * W ≤ R * W := Int.mul_le_mul_of_nonneg_right (by omega) (by omega)
        rw [Int.add_mul] at this; omega
      have hnn : 0 ≤ (r : Int) * W := Int.mul_nonneg (by omega) (by omega)
      have hs : ((r : Int) + 1) * W = r * W + W := by rw [Int.add_mul]; omega
      obtain ⟨ic1, ce1, a1, a2, a3⟩ := zq_E_row (M := M) (W := W) hg (d := M.m_starts P + r * W) (a := sc) (b := M.m_starts (P + 1) + r * W) (by omega) (by omega) (by omega) (x := x) (y := fb r) (fun k v S => q_Mo_spread_117 (q_Mo_spread_107 f) k g P (P + 1) R sc r v S) (fun S => q_Mo_spread_107 f g P (P + 1) R sc ((r : Int) + 1) S) (fun k v ic ce hv => by
          have w1 : (zq_cw2 M ic ce).m_windows = W := hW.1
          have w2 : (zq_cw2 M ic ce).m_starts = M.m_starts := rfl
          show q_Mo_spread_117 (q_Mo_spread_107 f) (k + 1) g P (P + 1) R sc r v (zq_cw2 M ic ce) = _
          rw [q_Mo_spread_117, w1, zq_w32i (z := (W : Int)) (by omega) (by omega), zq_w32i (z := (v : Int)) (by omega) (by omega), if_neg (by omega), zq_mb2_eq (zq_cellAt_eq ⟨by omega, by omega⟩ _ _), zq_mb2_eq (zq_cellAt_eq ⟨by omega, by omega⟩ _ _), w1, w2]) (fun k ic ce => by
          have w1 : (zq_cw2 M ic ce).m_windows = W := hW.1
          show q_Mo_spread_117 (q_Mo_spread_107 f) (k + 1) g P (P + 1) R sc r (W : Int) (zq_cw2 M ic ce) = _
          rw [q_Mo_spread_117, w1, if_pos (Int.le_refl _)]) W fU 0 ic ce (by omega) (zq_fU_gt (by omega)) (fun u _ hu => ⟨hx u hu, hb r u (Nat.le_refl _) (by omega) hu⟩)
      have a1 : q_Mo_spread_117 (q_Mo_spread_107 f) fU g P (P + 1) R sc r ((0 : Nat) : Int) (zq_cw2 M ic ce) = q_Mo_spread_107 f g P (P + 1) R sc ((r : Int) + 1) (zq_cw2 M ic1 ce1) := a1
      rw [show ((0 : Nat) : Int) = 0 from rfl] at a1 a3
      obtain ⟨ic', ce', i1, i2, i3⟩ := zq_E_sp107 hW hg hP hR (x := x) (fb := fb) hsc hst m f (r + 1) ic1 ce1 (by omega) (by omega) (fun u hu => by
          have o := a3 (sc + u) (by right; omega)
          exact zq_cE_c (hx u hu) o.1 o.2) (fun q v h1 h2 h3 => by
          have hge : (r : Int) * W + W ≤ q * W := by
            have : ((r : Int) + 1) * W ≤ q * W := Int.mul_le_mul_of_nonneg_right (by omega) (by omega)
            rw [Int.add_mul] at this; omega
          have o := a3 (M.m_starts (P + 1) + q * W + v) (by right; omega)
          exact zq_cE_c (hb q v (by omega) h2 h3) o.1 o.2)
      rw [show ((r + 1 : Nat) : Int) = (r : Int) + 1 by omega] at i1 i3
      rw [hs] at i3
      refine ⟨ic', ce', a1.trans i1, fun q v h1 h2 h3 => ?_, fun j hj => ?_⟩
      · by_cases z : q = r
        · subst z
          have o := i3 (M.m_starts P + q * W + v) (by left; omega)
          exact zq_cE_c (a2 v (by omega) h3) o.1 o.2
        · exact i2 q v (by omega) h2 h3
      · have o1 := i3 j (by omega); have o2 := a3 j (by omega)
        exact ⟨o1.1.trans o2.1, o1.2.trans o2.2⟩
set_option maxRecDepth 100000 in
theorem zq_E_sp231 {P : Int} (hP : 0 ≤ P ∧ P + 1 < 20) : ∀ (m f v : Nat) (M : MS), v + m = 6 → m < f → ∃ nf nl, q_Mo_spread_231 f P (P + 1) v M = some ((), MS.w_m_nameLengths (MS.w_m_nameFroms M nf) nl) ∧ (∀ u : Nat, v ≤ u → u < 6 → nf (6 * P + u) = M.m_nameFroms (6 * (P + 1) + u) ∧ nl (6 * P + u) = M.m_nameLengths (6 * (P + 1) + u)) ∧ (∀ j, (j < 6 * P + v ∨ 6 * P + 6 ≤ j) → nf j = M.m_nameFroms j ∧ nl j = M.m_nameLengths j)
  | m, 0, v, M => by omega
  | m, f + 1, v, M => by
    intro hm hf
    rw [q_Mo_spread_231, zq_w32i (z := (v : Int)) (by omega) (by omega)]
    cases m with
    | zero => rw [if_pos (by omega)]; exact ⟨M.m_nameFroms, M.m_nameLengths, rfl, fun u h1 h2 => by omega, fun _ _ => ⟨rfl, rfl⟩⟩
    | succ m =>
      have g1 : (0 : Int) ≤ 6 * (P + 1) + v ∧ 6 * (P + 1) + (v : Int) < 120 := by omega
      have g2 : (0 : Int) ≤ 6 * P + v ∧ 6 * P + (v : Int) < 120 := by omega
      rw [if_neg (by omega), if_pos g1, if_pos g2, if_pos g1, if_pos g2]
      obtain ⟨nf, nl, i1, i2, i3⟩ := zq_E_sp231 hP m f (v + 1) (MS.w_m_nameLengths (MS.w_m_nameFroms M (aU M.m_nameFroms (6 * P + v) (M.m_nameFroms (6 * (P + 1) + v)))) (aU M.m_nameLengths (6 * P + v) (M.m_nameLengths (6 * (P + 1) + v)))) (by omega) (by omega)
      rw [show ((v + 1 : Nat) : Int) = (v : Int) + 1 by omega] at i1 i3
      refine ⟨nf, nl, i1, fun u h1 h2 => ?_, fun j hj => ?_⟩
      · by_cases z : u = v
        · subst z
          have o := i3 (6 * P + u) (by left; omega)
          rw [o.1, o.2]
          exact ⟨zq_aU_at _ _ _, zq_aU_at _ _ _⟩
        · have o := i2 u (by omega) h2
          rw [o.1, o.2]
          exact ⟨zq_aU_ne _ _ _ _ (by omega), zq_aU_ne _ _ _ _ (by omega)⟩
      · have o := i3 j (by omega)
        rw [o.1, o.2]
        exact ⟨zq_aU_ne _ _ _ _ (by omega), zq_aU_ne _ _ _ _ (by omega)⟩
set_option maxRecDepth 100000 in
theorem zq_E_sp169 {P : Int} (hP : 0 ≤ P ∧ P + 1 < 20) {R : Nat} (hR : R ≤ 256) : ∀ (m f v : Nat) (M : MS), v + m = R → m < f → ∃ rs nf nl, q_Mo_spread_169 f P (P + 1) R v M = some ((), MS.w_m_nameLengths (MS.w_m_nameFroms (MS.w_m_tableNames (MS.w_m_tableRows (MS.w_m_rowSeries M rs) (aU M.m_tableRows P R)) (aU M.m_tableNames P (M.m_tableNames (P + 1)))) nf) nl) ∧ (∀ u : Nat, u < 6 → nf (6 * P + u) = M.m_nameFroms (6 * (P + 1) + u) ∧ nl (6 * P + u) = M.m_nameLengths (6 * (P + 1) + u)) ∧ (∀ j, (j < 6 * P ∨ 6 * P + 6 ≤ j) → nf j = M.m_nameFroms j ∧ nl j = M.m_nameLengths j) ∧ (∀ u : Nat, v ≤ u → u < R → rs (256 * P + u) = M.m_rowSeries (256 * (P + 1) + u)) ∧ (∀ j, (j < 256 * P + v ∨ 256 * P + 256 ≤ j) → rs j = M.m_rowSeries j)
  | m, 0, v, M => by omega
  | m, f + 1, v, M => by
    intro hm hf
    rw [q_Mo_spread_169, zq_w32i (z := (R : Int)) (by omega) (by omega), zq_w32i (z := (v : Int)) (by omega) (by omega)]
    cases m with
    | zero =>
      rw [if_pos (by omega), if_pos ⟨by omega, by omega⟩, if_pos ⟨by omega, by omega⟩, if_pos ⟨by omega, by omega⟩]
      obtain ⟨nf, nl, i1, i2, i3⟩ := zq_E_sp231 hP 6 fU 0 (MS.w_m_tableNames (MS.w_m_tableRows M (aU M.m_tableRows P R)) (aU M.m_tableNames P (M.m_tableNames (P + 1)))) (by omega) (zq_fU_gt (by omega))
      rw [show ((0 : Nat) : Int) = 0 from rfl] at i1 i3
      exact ⟨M.m_rowSeries, nf, nl, i1, fun u hu => i2 u (by omega) hu, fun j hj => i3 j (by omega), fun u h1 h2 => by omega, fun _ _ => rfl⟩
    | succ m =>
      rw [if_neg (by omega), if_pos ⟨by omega, by omega⟩, if_pos ⟨by omega, by omega⟩]
      obtain ⟨rs, nf, nl, i1, i2, i3, i4, i5⟩ := zq_E_sp169 hP hR m f (v + 1) (MS.w_m_rowSeries M (aU M.m_rowSeries (256 * P + v) (M.m_rowSeries (256 * (P + 1) + v)))) (by omega) (by omega)
      rw [show ((v + 1 : Nat) : Int) = (v : Int) + 1 by omega] at i1 i5
      refine ⟨rs, nf, nl, i1, i2, i3, fun u h1 h2 => ?_, fun j hj => ?_⟩
      · by_cases z : u = v
        · subst z; rw [i5 _ (by left; omega)]; exact zq_aU_at _ _ _
        · rw [i4 u (by omega) h2]; exact zq_aU_ne _ _ _ _ (by omega)
      · rw [i5 j (by omega)]; exact zq_aU_ne _ _ _ _ (by omega)
set_option maxRecDepth 100000 in
theorem zq_kb_one {nm : List zq_NM} {kb : List zq_Key} (hb : nm = []) (b5 : ∀ k ∈ kb, k.length = nm.length) (b4 : kb.Pairwise zq_klt) : kb = [] ∨ kb = [[]] := by
  cases kb with
  | nil => exact Or.inl rfl
  | cons x r =>
    right
    have hx : x = [] := by have := b5 x (by simp); rw [hb] at this; exact List.eq_nil_of_length_eq_zero this
    cases r with
    | nil => rw [hx]
    | cons y r =>
      have hy : y = [] := by have := b5 y (by simp); rw [hb] at this; exact List.eq_nil_of_length_eq_zero this
      rw [List.pairwise_cons] at b4
      have := b4.1 y (by simp)
      rw [hx, hy] at this
      exact absurd this (by decide)
set_option maxRecDepth 100000 in
theorem zq_r_opLeft {M : MS} {st : List zq_Tbl} {a b : zq_Tbl} (h : zq_JR T n lb N pts fr wd W M (b :: a :: st)) (hh : st.length ≤ 17) {g : Int} (hg : zq_bsg g) (ha : a.1 = []) (hb : b.1 ≠ []) : ∃ M', mb2 (s_Mo_spread M g st.length ((st.length : Int) + 1)) (fun r47 S47 => q_Mo_operate_182 st.length S47) = some (1, M') ∧ zq_JR T n lb N pts fr wd W M' (zq_joinT g a b :: st) ∧ zq_AF M M' := by
  obtain ⟨hp, ⟨a1, a2, ks, sr, a3, a4, a5, a6, a7, a8⟩, ⟨b1, b2, kb, sb, b3, b4, b5, b6, b7, b8⟩, hst⟩ := zq_J_two h
  have hW := h.1.1
  have hs := zq_J_st h st.length (by simp; omega)
  have hs1 := zq_J_st h (st.length + 1) (by simp)
  rw [show ((st.length + 1 : Nat) : Int) = (st.length : Int) + 1 by omega] at hs1
  have hRW2 : (kb.length : Int) * W ≤ 16384 := by
    have := Int.mul_le_mul_of_nonneg_right (a := (kb.length : Int)) (b := 256) (c := (W : Int)) (by omega) (by omega)
    omega
  have hRW0 : 0 ≤ (kb.length : Int) * W := Int.mul_nonneg (by omega) (by omega)
  have jn : (zq_joinT g a b).1 = b.1 := by unfold zq_joinT; rw [if_pos ha]
  have jf : ∀ k v, (zq_joinT g a b).2 k v = zq_opO g (a.2 [] v) (b.2 k v) := fun k v => by
    unfold zq_joinT; simp only; rw [if_neg (fun z => hb z.2.1), if_pos ha, if_neg hb]
  have hm : ∀ k, (∃ v, v < W ∧ (zq_joinT g a b).2 k v ≠ none) → k ∈ kb := by
    rintro k ⟨v, v1, v2⟩
    rw [jf] at v2
    exact (b7 k).mpr ⟨v, v1, (zq_op0 v2).2⟩
  have zq_gP : (0 : Int) ≤ (st.length : Int) ∧ (st.length : Int) < 20 := by omega
  have gQ : (0 : Int) ≤ (st.length : Int) + 1 ∧ (st.length : Int) + 1 < 20 := by omega
  have nxx : ∀ (M9 : MS), M9.m_tableNames st.length = M.m_tableNames ((st.length : Int) + 1) → (∀ u : Nat, u < 6 → M9.m_nameFroms (6 * (st.length : Int) + u) = M.m_nameFroms (6 * ((st.length : Int) + 1) + u) ∧ M9.m_nameLengths (6 * (st.length : Int) + u) = M.m_nameLengths (6 * ((st.length : Int) + 1) + u)) → zq_NX M9 st.length b.1 := by
    intro M9 q1 q2
    refine ⟨by rw [q1]; exact b1.1, fun i x hx => ?_⟩
    have hi : i < b.1.length := (List.getElem?_eq_some_iff.mp hx).1
    have := q2 i (by have := b2.2; omega)
    rw [this.1, this.2]; exact b1.2 i x hx
  rcases zq_kb_one ha a5 a4 with rfl | rfl
  · -- the left table is empty
    have hnone : ∀ v, v < W → a.2 [] v = none := fun v hv => by
      cases hq : a.2 [] v with
      | none => rfl
      | some x => have := (a7 []).mpr ⟨v, hv, by rw [hq]; simp⟩; simp at this
    obtain ⟨rs, nf, nl, e1, e2, e3, e4, e5⟩ := zq_E_sp169 (P := (st.length : Int)) (by omega) (R := 0) (by omega) 0 fU 0 M (by omega) (zq_fU_gt (by omega))
    rw [show ((0 : Nat) : Int) = 0 from rfl] at e1
    have es : s_Mo_spread M g st.length ((st.length : Int) + 1) = some ((), MS.w_m_nameLengths (MS.w_m_nameFroms (MS.w_m_tableNames (MS.w_m_tableRows (MS.w_m_rowSeries M rs) (aU M.m_tableRows st.length 0)) (aU M.m_tableNames st.length (M.m_tableNames ((st.length : Int) + 1)))) nf) nl) := by
      rw [s_Mo_spread, if_pos zq_gP, a3.1, if_pos (by decide), q_Mo_spread_19, if_pos gQ, zq_mb2_eq (zq_cellAt_eq ⟨by omega, by omega⟩ _ _), show fU = 999999 + 1 from rfl, q_Mo_spread_38, hW.1, zq_w32i (z := (W : Int)) (by omega) (by omega), show w32 0 = 0 by decide, if_neg (by omega), if_pos (Int.le_refl _), q_Mo_spread_104, show fU = 999999 + 1 from rfl, q_Mo_spread_107, if_pos (Int.le_refl _)]
      exact e1
    obtain ⟨M', m1, m2, m3⟩ := zq_r_opEnd (t := zq_joinT g a b) h hh (M1 := MS.w_m_nameLengths (MS.w_m_nameFroms (MS.w_m_tableNames (MS.w_m_tableRows (MS.w_m_rowSeries M rs) (aU M.m_tableRows st.length 0)) (aU M.m_tableNames st.length (M.m_tableNames ((st.length : Int) + 1)))) nf) nl) rfl rfl ⟨rfl, rfl, rfl, rfl⟩ (fun j _ => rfl) (fun j hj => ⟨zq_aU_ne _ _ _ _ (by omega), zq_aU_ne _ _ _ _ (by omega)⟩) (fun j hj => e3 j (by left; omega)) (fun j hj => e5 j (by left; omega)) (fun j _ => ⟨rfl, rfl⟩) (by rw [jn]; exact nxx _ (zq_aU_at _ _ _) e2) (by rw [jn]; exact b2) (ks := []) (sr := sb) ⟨by show aU M.m_tableRows st.length 0 st.length = _; rw [zq_aU_at]; rfl, by simp⟩ (by simp) (by simp) (fun r k hk => by simp at hk) (fun k hk => by
      obtain ⟨v, v1, v2⟩ := hk
      rw [jf, hnone v v1] at v2
      exact absurd rfl (zq_op0 v2).1) (fun _ k hk => by simp at hk)
    exact ⟨M', by rw [zq_mb2_eq es]; exact m1, m2, m3⟩
  · have hr1 : M.m_tableRows st.length = 1 := a3.1
    rw [hr1, Int.one_mul] at hst
    have ha0 := fun v hv => (a6 0 [] rfl).1 v hv
    have es0 : ∀ v : Nat, M.m_starts (st.length : Int) + ((0 : Nat) : Int) * W + v = M.m_starts (st.length : Int) + v := fun v => by simp
    -- if the right table is empty
    obtain ⟨sc, hsc⟩ : ∃ sc, sc = M.m_starts ((st.length : Int) + 1) + kb.length * W := ⟨_, rfl⟩
    have fin : ∀ (ic : Int → Int) (ce : Int → Int64), (∀ q v : Nat, q < kb.length → v < W → zq_cE (zq_cw2 M ic ce) (M.m_starts (st.length : Int) + q * W + v) (zq_opO g (a.2 [] v) (b.2 (kb.getD q []) v))) → (∀ j, j < M.m_starts (st.length : Int) → ic j = M.m_isCell j ∧ ce j = M.m_cells j) → s_Mo_spread M g st.length ((st.length : Int) + 1) = q_Mo_spread_169 fU st.length ((st.length : Int) + 1) kb.length 0 (zq_cw2 M ic ce) → ∃ M', mb2 (s_Mo_spread M g st.length ((st.length : Int) + 1)) (fun r47 S47 => q_Mo_operate_182 st.length S47) = some (1, M') ∧ zq_JR T n lb N pts fr wd W M' (zq_joinT g a b :: st) ∧ zq_AF M M' := by
      intro ic ce c1 c2 c3
      obtain ⟨rs, nf, nl, e1, e2, e3, e4, e5⟩ := zq_E_sp169 (P := (st.length : Int)) (by omega) (R := kb.length) (by omega) kb.length fU 0 (zq_cw2 M ic ce) (by omega) (zq_fU_gt (by omega))
      rw [show ((0 : Nat) : Int) = 0 from rfl] at e1
      obtain ⟨M', m1, m2, m3⟩ := zq_r_opEnd (t := zq_joinT g a b) h hh (M1 := MS.w_m_nameLengths (MS.w_m_nameFroms (MS.w_m_tableNames (MS.w_m_tableRows (MS.w_m_rowSeries (zq_cw2 M ic ce) rs) (aU M.m_tableRows st.length kb.length)) (aU M.m_tableNames st.length (M.m_tableNames ((st.length : Int) + 1)))) nf) nl) rfl rfl ⟨rfl, rfl, rfl, rfl⟩ (fun j _ => rfl) (fun j hj => ⟨zq_aU_ne _ _ _ _ (by omega), zq_aU_ne _ _ _ _ (by omega)⟩) (fun j hj => e3 j (by left; omega)) (fun j hj => e5 j (by left; omega)) (fun j hj => c2 j hj) (by rw [jn]; exact nxx _ (zq_aU_at _ _ _) e2) (by rw [jn]; exact b2) (ks := kb) (sr := sb) ⟨by show aU M.m_tableRows st.length kb.length st.length = _; rw [zq_aU_at], b3.2⟩ b4 (by rw [jn]; exact b5) (fun r k hk => by
        have hr : r < kb.length := (List.getElem?_eq_some_iff.mp hk).1
        refine ⟨fun v hv => ?_, ?_⟩
        · have q := c1 r v hr hv
          have eg : kb.getD r [] = k := by rw [List.getD_eq_getElem?_getD, hk]; rfl
          rw [jf]; rw [eg] at q; exact q
        · have := e4 r (by omega) hr
          exact this.trans (b6 r k hk).2) hm (by rw [jn]; exact b8)
      refine ⟨M', ?_, m2, m3⟩
      rw [c3, zq_mb2_eq e1]; exact m1
    by_cases c0 : kb.length = 0
    · refine fin M.m_isCell M.m_cells (fun q v hq => by omega) (fun _ _ => ⟨rfl, rfl⟩) ?_
      rw [s_Mo_spread, if_pos zq_gP, hr1, if_neg (by decide), if_pos gQ, q_Mo_spread_19, if_pos gQ, zq_mb2_eq (zq_cellAt_eq ⟨by omega, by omega⟩ _ _), b3.1, c0, show fU = 999999 + 1 from rfl, q_Mo_spread_38, hW.1, zq_w32i (z := (W : Int)) (by omega) (by omega), show w32 0 = 0 by decide, if_neg (by omega), show w32 ((0 : Nat) : Int) = 0 by decide, if_pos (Int.le_refl _), q_Mo_spread_104, show fU = 999999 + 1 from rfl, q_Mo_spread_107, if_pos (by decide)]; rfl
    · obtain ⟨ic1, ce1, e1, e2, e3⟩ := zq_E_sp38 (M := M) ⟨hW.1, hW.2.1, hW.2.2⟩ (g := g) (P := (st.length : Int)) (by omega) (t0 := (kb.length : Int)) (sc := sc) (by omega) (d := M.m_starts (st.length : Int)) rfl (by omega) W fU 0 M.m_isCell M.m_cells (by omega) (zq_fU_gt (by omega)) (fun u _ hu => by
          have := zq_cE_01 (ha0 u hu); rw [es0] at this; exact this)
      rw [show ((0 : Nat) : Int) = 0 from rfl, show zq_cw2 M M.m_isCell M.m_cells = M from rfl] at e1
      rw [show ((0 : Nat) : Int) = 0 from rfl] at e3
      obtain ⟨ic2, ce2, f1, f2, f3⟩ := zq_E_sp107 (M := M) ⟨hW.1, hW.2.1, hW.2.2⟩ hg (P := (st.length : Int)) (by omega) (R := kb.length) b3.2 (x := fun v => a.2 [] v) (fb := fun q v => b.2 (kb.getD q []) v) (sc := sc) hsc (by omega) kb.length fU 0 ic1 ce1 (by omega) (zq_fU_gt (by omega)) (fun u hu => by
          have q := ha0 u hu
          rw [es0] at q
          have o := e2 u (by omega) hu
          cases hq : a.2 [] u with
          | none => rw [hq] at q; exact o.1.trans q
          | some x => rw [hq] at q; exact ⟨o.1.trans q.1, o.2.trans q.2⟩) (fun q v _ hq hv => by
          have hk : kb[q]? = some (kb.getD q []) := by rw [List.getD_eq_getElem?_getD, List.getElem?_eq_getElem hq]; rfl
          have hlt := zq_ix_lt (W := (W : Int)) (r := (q : Int)) (r' := (kb.length : Int)) (v := (v : Int)) (by omega) (by omega) (by omega)
          have o := e3 (M.m_starts ((st.length : Int) + 1) + q * W + v) (by left; omega)
          exact zq_cE_c ((b6 q _ hk).1 v hv) o.1 o.2)
      rw [show ((0 : Nat) : Int) = 0 from rfl] at f1
      rw [show ((0 : Nat) : Int) * W = 0 by simp] at f3
      refine fin ic2 ce2 (fun q v hq hv => f2 q v (by omega) hq hv) (fun j hj => ?_) ?_
      · have o1 := f3 j (by left; omega); have o2 := e3 j (by left; omega)
        exact ⟨o1.1.trans o2.1, o1.2.trans o2.2⟩
      · rw [s_Mo_spread, if_pos zq_gP, hr1, if_neg (by decide), if_pos gQ, q_Mo_spread_19, if_pos gQ, zq_mb2_eq (zq_cellAt_eq ⟨by omega, by omega⟩ _ _), b3.1, hW.1]
        rw [show M.m_starts ((st.length : Int) + 1) + (kb.length : Int) * W + 0 = sc by omega]
        rw [e1, q_Mo_spread_104, f1]
set_option maxRecDepth 100000 in
/-- an operation -/
theorem zq_r_operate {M : MS} (hMB : zq_MB T n w M) {st : List zq_Tbl} {a b : zq_Tbl} (h : zq_JR T n lb N pts fr wd W M (b :: a :: st)) (hh : st.length ≤ 17) {g : Int} (hg : zq_bsg g) (zq_pl : Int) :
    (¬ (a.1 ≠ [] ∧ b.1 ≠ [] ∧ a.1.map (zq_nmx T) ≠ b.1.map (zq_nmx T)) → ∃ M', s_Mo_operate M g zq_pl = some (1, M') ∧ zq_JR T n lb N pts fr wd W M' (zq_joinT g a b :: st) ∧ zq_AF M M') ∧ ((a.1 ≠ [] ∧ b.1 ≠ [] ∧ a.1.map (zq_nmx T) ≠ b.1.map (zq_nmx T)) → zq_FL M (5, zq_pl) (s_Mo_operate M g zq_pl)) := by
  obtain ⟨hp, ta, tb, hst⟩ := zq_J_two h
  have e1 : M.m_pile - 2 = (st.length : Int) := by omega
  have e2 : M.m_pile - 1 = (st.length : Int) + 1 := by omega
  have hs := zq_r_same hMB (P := (st.length : Int)) (Q := (st.length : Int) + 1) (by omega) (by omega) ta.1 tb.1 ta.2.1 tb.2.1
  have na : M.m_tableNames (st.length : Int) = a.1.length := ta.1.1
  have nb : M.m_tableNames ((st.length : Int) + 1) = b.1.length := tb.1.1
  have la := ta.2.1.2; have lb' := tb.2.1.2
  rw [s_Mo_operate, e1, e2, zq_mb2_eq hs]
  by_cases c1 : a.1.map (zq_nmx T) = b.1.map (zq_nmx T)
  · rw [if_neg (by rw [zq_b01_0]; simp [c1])]
    exact ⟨fun _ => zq_r_opMeet hMB h hh hg c1, fun z => absurd c1 z.2.2⟩
  · rw [if_pos (by rw [zq_b01_0]; exact c1), if_pos (show (0 : Int) ≤ (st.length : Int) + 1 ∧ (st.length : Int) + 1 < 20 by omega), nb, zq_w32i (z := (b.1.length : Int)) (by omega) (by omega)]
    by_cases c2 : b.1 = []
    · have ha : a.1 ≠ [] := fun z => c1 (by rw [z, c2])
      rw [if_pos (by rw [c2]; rfl)]
      exact ⟨fun _ => zq_r_opRight h hh hg ha c2, fun z => absurd c2 z.2.1⟩
    · have hbl : ¬ (b.1.length : Int) = 0 := fun z => c2 (List.eq_nil_of_length_eq_zero (by omega))
      rw [if_neg hbl, if_pos (show (0 : Int) ≤ (st.length : Int) ∧ (st.length : Int) < 20 by omega), na, zq_w32i (z := (a.1.length : Int)) (by omega) (by omega)]
      by_cases c3 : a.1 = []
      · rw [if_pos (by rw [c3]; rfl)]
        exact ⟨fun _ => zq_r_opLeft h hh hg c3 c2, fun z => absurd c3 z.1⟩
      · have hal : ¬ (a.1.length : Int) = 0 := fun z => c3 (List.eq_nil_of_length_eq_zero (by omega))
        rw [if_neg hal]
        refine ⟨fun z => absurd ⟨c3, c2, c1⟩ z, fun _ => zq_r_flaw2 hMB.2.2.2.2.1.1 5 zq_pl⟩
set_option maxRecDepth 100000 in
def zq_J1 (T : Int → Int) (n : Int) (lb : Nat → zq_LB) (N : Nat) (pts : List zq_P4) (fr wd : Int64) (W : Nat) (M : MS) (st : List zq_Tbl) : Prop := zq_JR T n lb N pts fr wd W M st ∧ st.length ≤ 19
set_option maxRecDepth 100000 in
/-- the second pass: the orders mean tables -/
theorem zq_sem1 (T : Int → Int) (n : Int) (lb : Nat → zq_LB) (N : Nat) (pts : List zq_P4) (fr wd : Int64) (W : Nat) : zq_SEM T n 1 (zq_J1 T n lb N pts fr wd W) (zq_stp1 T lb pts fr wd W) List.length := by
  refine ⟨fun M s k f t x sg sp sc op wa h => ?_, fun M s h => ⟨by have := h.1.2.1; omega, by have := h.1.2.1; omega⟩, fun M s hB hJ hh => ?_, fun M s a b c k f t x q0 ns ms kd hB hJ hh h1 h2 h3 h4 => ?_, fun M s hB hJ hh => ?_, fun M s g zq_pl hB hJ hh hg => ?_⟩
  · exact ⟨⟨zq_CX_KF h.1.1 rfl, h.1.2.1, h.1.2.2.1, h.1.2.2.2⟩, h.2⟩
  · have hn0 : 0 ≤ n := by have := hB.1.1; rw [hB.2.2.1] at this; exact this
    obtain ⟨M', m1, m2, m3⟩ := zq_r_number hJ.1 hh hn0
    refine ⟨_, M', rfl, rfl, ⟨m2, by simp; omega⟩, m3, fun K => ?_⟩
    rw [hB.2.2.2.2.2.1, if_neg (by decide), zq_mb2_eq m1]
  · have hk : 1 ≤ kd ∧ kd ≤ 7 := by
      obtain ⟨p, y, hp, k1, k2, -⟩ := h4
      rw [← k1] at k2 ⊢
      have u1 : zq_fnK T n p ≤ 7 := by unfold zq_fnK; repeat (split; omega); omega
      have u2 : zq_fnK T n p = -1 ∨ 1 ≤ zq_fnK T n p := by unfold zq_fnK; repeat (split; omega); omega
      omega
    obtain ⟨M', m1, m2, m3⟩ := zq_r_reckon hB hJ.1 hh h1 h2 h3 h4 hk k f t x
    refine ⟨_, M', rfl, rfl, ⟨m2, by simp; omega⟩, m3, fun K => ?_⟩
    rw [if_neg (by decide), zq_mb2_eq m1]
  · match s, hJ, hh with
    | t :: s, hJ, hh =>
      have hl := hJ.2
      simp at hl
      obtain ⟨M', m1, m2, m3⟩ := zq_r_negate hJ.1 (by omega)
      exact ⟨_, M', rfl, rfl, ⟨m2, by simp; omega⟩, m3, fun _ => m1, fun z => by omega⟩
  · match s, hJ, hh with
    | b :: a :: s, hJ, hh =>
      have hl := hJ.2
      simp at hl
      obtain ⟨o1, o2⟩ := zq_r_operate hB hJ.1 (by omega) hg zq_pl
      have es : zq_stp1 T lb pts fr wd W (b :: a :: s) (g, ll 0, zq_pl, 0, [], []) = if a.1 ≠ [] ∧ b.1 ≠ [] ∧ a.1.map (zq_nmx T) ≠ b.1.map (zq_nmx T) then .error (5, zq_pl) else .ok (zq_joinT g a b :: s) := by
        unfold zq_bsg at hg
        unfold zq_stp1
        rw [if_neg (by show ¬ g = 302; omega), if_neg (by show ¬ g = 310; omega), if_neg (by show ¬ g = 311; omega)]
      rw [es]
      by_cases c : a.1 ≠ [] ∧ b.1 ≠ [] ∧ a.1.map (zq_nmx T) ≠ b.1.map (zq_nmx T)
      · rw [if_pos c]
        refine ⟨fun s' z => (by cases z), fun e z => ?_⟩
        cases z
        exact ⟨rfl, o2 c⟩
      · rw [if_neg c]
        refine ⟨fun s' z => ?_, fun e z => (by cases z)⟩
        cases z
        obtain ⟨M', m1, m2, m3⟩ := o1 c
        exact ⟨by simp, M', ⟨m2, by simp; omega⟩, m3, fun _ => m1, fun z => by omega⟩
end
