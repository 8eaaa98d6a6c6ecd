/-! room by potentials -/
set_option maxRecDepth 100000 in
def zq_gP (x : Int) : Int := 4 * x + (if x = 16384 then 32768 else 0)
set_option maxRecDepth 100000 in
def zq_gL (x : Int) : Int := if x ≤ 0 then 0 else (Nat.log2 x.toNat : Int) + 1
set_option maxRecDepth 100000 in
def zq_sumG (f : Nat → Int) : Nat → Int
  | 0 => 0
  | n + 1 => zq_sumG f n + f n
set_option maxRecDepth 100000 in
def zq_potS (c : CW) : Int := 2 * c.tc + 2 * c.oc + 2 * c.mo + (if c.mo = 16384 then 16384 else 0) + zq_sumG (fun j => zq_gP (c.gc j)) 19
set_option maxRecDepth 100000 in
def zq_potC (c : CW) : Int := zq_gL c.tc + zq_gL c.oc + zq_gL c.mo + zq_sumG (fun j => 2 * zq_gL (c.gc j)) 19
set_option maxRecDepth 100000 in
theorem zq_gL_two {x : Int} (h : 0 < x) : zq_gL (2 * x) = zq_gL x + 1 := by
  unfold zq_gL
  rw [if_neg (by omega), if_neg (by omega), show (2 * x).toNat = 2 * x.toNat by omega, Nat.log2_two_mul (by omega)]
  omega
set_option maxRecDepth 100000 in
/-- tape -/
def zq_RT (c : CW) (S : WS) (M : MS) : Prop := S.tp_size = M.m_length ∧ (0 ≤ S.tp_size ∧ S.tp_size ≤ 10240 ∧ S.tp_size ≤ c.tc) ∧ (512 ≤ c.tc ∧ c.tc ≤ 20500) ∧ (∀ j, 0 ≤ j → j < S.tp_size → S.tp_bytes j = M.m_tape j) ∧ (∀ j, zq_byt (S.tp_bytes j)) ∧ (∀ j, zq_byt (M.m_tape j))
set_option maxRecDepth 100000 in
theorem zq_RT_bt {c : CW} {S : WS} {M : MS} (h : zq_RT c S M) : zq_bt S = zq_mby M := by
  funext i
  unfold zq_bt zq_mby
  rw [← h.1]
  by_cases c1 : 0 ≤ i ∧ i < S.tp_size
  · rw [if_pos c1, if_pos c1, h.2.2.2.1 i c1.1 c1.2]
  · rw [if_neg c1, if_neg c1]
set_option maxRecDepth 100000 in
theorem zq_RT_tpI {c : CW} {S : WS} {M : MS} (h : zq_RT c S M) : zq_tpI c S := ⟨h.2.1.1, h.2.1.2.2, by have := h.2.2.1.2; omega⟩
set_option maxRecDepth 100000 in
theorem zq_RT_moI {c : CW} {S : WS} {M : MS} (h : zq_RT c S M) : zq_moI M := ⟨by have := h.2.1.1; rw [h.1] at this; exact this, by have := h.2.1.2.1; rw [h.1] at this; omega, h.2.2.2.2.2⟩
set_option maxRecDepth 100000 in
/-- bytes put on the tape -/
def zq_by4 (v : Int) : List Int := [sb (gShr v 24), sb (gShr v 16), sb (gShr v 8), sb (gShr v 0)]
set_option maxRecDepth 100000 in
theorem zq_sb_byt (x : Int) : zq_byt (sb x) := by unfold zq_byt sb; omega
set_option maxRecDepth 100000 in
def zq_tpw (S : WS) (f : Int → Int) (n : Int) : WS := WS.w_tp_size (WS.w_tp_bytes S f) n
set_option maxRecDepth 100000 in
theorem zq_aU_at {α : Type} (f : Int → α) (i : Int) (x : α) : aU f i x i = x := by unfold aU; rw [if_pos rfl]
set_option maxRecDepth 100000 in
theorem zq_aU_ne {α : Type} (f : Int → α) (i : Int) (x : α) (j : Int) (h : j ≠ i) : aU f i x j = f j := by unfold aU; rw [if_neg h]
set_option maxRecDepth 100000 in
theorem zq_wrt_byt {f : Int → Int} {p : Int} {xs : List Int} (hf : ∀ j, zq_byt (f j)) (hx : ∀ x ∈ xs, zq_byt x) : ∀ j, zq_byt (zq_wrt f p xs j) := by
  intro j; unfold zq_wrt
  by_cases c1 : p ≤ j
  · rw [if_pos c1]
    cases h : xs[(j - p).toNat]? with
    | none => exact hf j
    | some x => exact hx x (List.mem_of_getElem? h)
  · rw [if_neg c1]; exact hf j
set_option maxRecDepth 100000 in
theorem zq_wrt_lo {f : Int → Int} {p : Int} {xs : List Int} {j : Int} (h : j < p) : zq_wrt f p xs j = f j := by unfold zq_wrt; rw [if_neg (by omega)]
set_option maxRecDepth 100000 in
theorem zq_wrt_hi {f : Int → Int} {p : Int} {xs : List Int} {i : Nat} {x : Int} (h : xs[i]? = some x) : zq_wrt f p xs (p + i) = x := by
  unfold zq_wrt; rw [if_pos (by omega), show (p + i - p).toNat = i by omega, h]
set_option maxRecDepth 100000 in
theorem zq_wrt_app (f : Int → Int) (p : Int) (xs ys : List Int) : zq_wrt (zq_wrt f p xs) (p + xs.length) ys = zq_wrt f p (xs ++ ys) := by
  funext j
  by_cases c1 : p + xs.length ≤ j
  · have c2 : p ≤ j := by omega
    have e1 : (xs ++ ys)[(j - p).toNat]? = ys[(j - (p + xs.length)).toNat]? := by
      rw [List.getElem?_append_right (by omega), show (j - p).toNat - xs.length = (j - (p + xs.length)).toNat by omega]
    have e2 : xs[(j - p).toNat]? = none := List.getElem?_eq_none (by omega)
    simp only [zq_wrt, if_pos c1, if_pos c2, e1, e2]
  · by_cases c2 : p ≤ j
    · have e1 : (xs ++ ys)[(j - p).toNat]? = xs[(j - p).toNat]? := List.getElem?_append_left (by omega)
      simp only [zq_wrt, if_neg c1, if_pos c2, e1]
    · simp only [zq_wrt, if_neg c1, if_neg c2]
set_option maxRecDepth 100000 in
theorem zq_E_put {c : CW} : ∀ (S : WS) (v : Int), 0 ≤ S.tp_size → S.tp_size + 4 ≤ c.tc → q_Tp_put_35 fU c v 24 S = some ((), c, zq_tpw S (zq_wrt S.tp_bytes S.tp_size (zq_by4 v)) (S.tp_size + 4)) := by
  intro S v h0 h1
  have st : ∀ (k : Nat) (f : Int → Int) (xs : List Int) (z : Int), 0 ≤ z → z ≤ 24 → xs.length < 4 → q_Tp_put_35 (k + 1) c v z (zq_tpw S (zq_wrt f S.tp_size xs) (S.tp_size + xs.length)) = q_Tp_put_35 k c v (z + (-8)) (zq_tpw S (zq_wrt f S.tp_size (xs ++ [sb (gShr v z)])) (S.tp_size + (xs ++ [sb (gShr v z)]).length)) := by
    intro k f xs z z0 z1 hx
    rw [q_Tp_put_35, zq_w32i (z := z) (by omega) (by omega), if_neg (by omega), if_pos (show (0 : Int) ≤ (zq_tpw S (zq_wrt f S.tp_size xs) (S.tp_size + xs.length)).tp_size ∧ (zq_tpw S (zq_wrt f S.tp_size xs) (S.tp_size + xs.length)).tp_size < (c.tc : Int) from ⟨by show (0 : Int) ≤ S.tp_size + xs.length; omega, by show S.tp_size + xs.length < c.tc; omega⟩)]
    have e1 := zq_wrt_snoc f S.tp_size xs (sb (gShr v z))
    show q_Tp_put_35 k c v (z + (-8)) (zq_tpw S (aU (zq_wrt f S.tp_size xs) (S.tp_size + xs.length) (sb (gShr v z))) (S.tp_size + xs.length + 1)) = _
    rw [e1, List.length_append]
    show _ = q_Tp_put_35 k c v (z + (-8)) (zq_tpw S _ (S.tp_size + ((xs.length + 1 : Nat) : Int)))
    rw [show S.tp_size + ((xs.length + 1 : Nat) : Int) = S.tp_size + xs.length + 1 by omega]
  have e0 : S = zq_tpw S (zq_wrt S.tp_bytes S.tp_size []) (S.tp_size + ([] : List Int).length) := by
    rw [zq_wrt_nil]; show S = zq_tpw S S.tp_bytes (S.tp_size + ((0 : Nat) : Int)); rw [show S.tp_size + ((0 : Nat) : Int) = S.tp_size by omega]; rfl
  conv => lhs; rw [e0]
  rw [show fU = 999995 + 1 + 1 + 1 + 1 + 1 from rfl]
  rw [st _ _ [] 24 (by omega) (by omega) (by simp), show (24 : Int) + (-8) = 16 from rfl, st _ _ _ 16 (by omega) (by omega) (by simp), show (16 : Int) + (-8) = 8 from rfl, st _ _ _ 8 (by omega) (by omega) (by simp), show (8 : Int) + (-8) = 0 from rfl, st _ _ _ 0 (by omega) (by omega) (by simp)]
  rw [q_Tp_put_35, zq_w32i (z := 0 + (-8)) (by omega) (by omega), if_pos (by omega)]
  rfl
set_option maxRecDepth 100000 in
theorem zq_bChk_of {f : Int → Int} (h : ∀ j, zq_byt (f j)) : ∀ n : Nat, bChk f n = true
  | 0 => rfl
  | n + 1 => by rw [bChk, zq_bChk_of h n, Bool.true_and]; exact decide_eq_true (h n)
set_option maxRecDepth 100000 in
/-- only tape room has changed -/
def zq_tcS (c c9 : CW) : Prop := ∃ (t : Int) (b s : Nat), c9 = CW.w_tc (CW.w_bs (CW.w_bc c b) s) t ∧ (512 ≤ t ∧ t ≤ 20500) ∧ (b : Int) + zq_gL t = c.bc + zq_gL c.tc ∧ (s : Int) + 2 * t = c.bs + 2 * c.tc
set_option maxRecDepth 100000 in
theorem zq_tcS_tr {a b c : CW} (h1 : zq_tcS a b) (h2 : zq_tcS b c) : zq_tcS a c := by
  obtain ⟨t, x, s, rfl, r1, r2, r3⟩ := h1
  obtain ⟨t', x', s', rfl, q1, q2, q3⟩ := h2
  exact ⟨t', x', s', rfl, q1, by rw [q2]; exact r2, by rw [q3]; exact r3⟩
set_option maxRecDepth 100000 in
theorem zq_E_tput {c : CW} {S : WS} (hb : ∀ j, zq_byt (S.tp_bytes j)) (h0 : 0 ≤ S.tp_size) (h1 : S.tp_size + 4 ≤ 10240) (ht : 512 ≤ c.tc ∧ c.tc ≤ 20500) (hs : S.tp_size ≤ c.tc) (hc : 1 ≤ c.bc) (hz : 41000 ≤ c.bs) (v : Int) :
    ∃ (c9 : CW) (F : Int → Int), s_Tp_put c S v = some ((), c9, zq_tpw S F (S.tp_size + 4)) ∧ zq_tcS c c9 ∧ S.tp_size + 4 ≤ c9.tc ∧ (∀ j, zq_byt (F j)) ∧ (∀ j, j < S.tp_size → 0 ≤ j → F j = S.tp_bytes j) ∧ (∀ (i : Nat) (x : Int), (zq_by4 v)[i]? = some x → F (S.tp_size + i) = x) := by
  have hby : ∀ x ∈ zq_by4 v, zq_byt x := by
    intro x hx
    simp only [zq_by4, List.mem_cons, List.not_mem_nil, or_false] at hx
    rcases hx with rfl | rfl | rfl | rfl <;> exact zq_sb_byt _
  rw [s_Tp_put, zq_w32i (z := S.tp_size) (by omega) (by omega), zq_w32i (z := c.tc - 4) (by omega) (by omega)]
  by_cases c1 : S.tp_size ≤ c.tc - 4
  · rw [if_pos c1]
    refine ⟨c, zq_wrt S.tp_bytes S.tp_size (zq_by4 v), zq_E_put S v h0 (by omega), ⟨c.tc, c.bc, c.bs, rfl, ht, rfl, rfl⟩, by omega, zq_wrt_byt hb hby, fun j hj _ => zq_wrt_lo hj, fun i x hx => zq_wrt_hi hx⟩
  · rw [if_neg c1, if_pos ⟨⟨by omega, by omega, by omega⟩, zq_bChk_of hb _⟩, if_pos ⟨hc, by omega⟩]
    have hk : ∀ j, zq_byt (aK S.tp_bytes 0 c.tc (2 * c.tc) j) := fun j => by
      unfold aK; split
      · exact hb j
      · unfold zq_byt; omega
    refine ⟨_, zq_wrt (aK S.tp_bytes 0 c.tc (2 * c.tc)) S.tp_size (zq_by4 v), zq_E_put (WS.w_tp_bytes S (aK S.tp_bytes 0 c.tc (2 * c.tc))) v h0 (by show S.tp_size + 4 ≤ 2 * c.tc; omega), ⟨2 * c.tc, c.bc - 1, c.bs - (2 * c.tc).toNat, rfl, by omega, ?_, by omega⟩, by show S.tp_size + 4 ≤ 2 * c.tc; omega, zq_wrt_byt hk hby, fun j hj h2 => ?_, fun i x hx => zq_wrt_hi hx⟩
    · rw [zq_gL_two (by omega)]; omega
    · rw [zq_wrt_lo hj]; unfold aK; rw [if_pos (by omega)]
set_option maxRecDepth 100000 in
/-- five ints on the tape of the program -/
def zq_fb20 (a b c d e : Int) : List Int := zq_by4 a ++ zq_by4 b ++ zq_by4 c ++ zq_by4 d ++ zq_by4 e
set_option maxRecDepth 100000 in
theorem zq_tcS_b {c c9 : CW} (h : zq_tcS c c9) (h5 : 512 ≤ c.tc ∧ c.tc ≤ 20500) (hg : c9.tc ≤ 20500) : (c9.bc : Int) ≤ c.bc + zq_gL c.tc ∧ True := by
  obtain ⟨t, x, s, rfl, r1, r2, r3⟩ := h
  refine ⟨?_, trivial⟩
  show (x : Int) ≤ _
  have : 0 ≤ zq_gL t := by unfold zq_gL; split <;> omega
  omega
set_option maxRecDepth 100000 in
theorem zq_gL_le {x : Int} (h0 : 512 ≤ x) (h : x ≤ 20500) : 10 ≤ zq_gL x ∧ zq_gL x ≤ 15 := by
  unfold zq_gL
  rw [if_neg (by omega)]
  have h1 : 9 ≤ Nat.log2 x.toNat := (Nat.le_log2 (by omega)).mpr (by show 2 ^ 9 ≤ x.toNat; omega)
  have h2 : Nat.log2 x.toNat < 15 := (Nat.log2_lt (by omega)).mpr (by show x.toNat < 2 ^ 15; omega)
  omega
set_option maxRecDepth 100000 in
theorem zq_E_feedW {c : CW} {S : WS} (hb : ∀ j, zq_byt (S.tp_bytes j)) (h0 : 0 ≤ S.tp_size) (h1 : S.tp_size + 20 ≤ 10240) (ht : 512 ≤ c.tc ∧ c.tc ≤ 20500) (hs : S.tp_size ≤ c.tc) (hc : 60 ≤ c.bc) (hz : 100000 ≤ c.bs) (v1 v2 v3 v4 v5 : Int) :
    ∃ (c9 : CW) (F : Int → Int), s_WT_feed c S v1 v2 v3 v4 v5 = some ((0, S.tp_size + 20), c9, zq_tpw S F (S.tp_size + 20)) ∧ zq_tcS c c9 ∧ S.tp_size + 20 ≤ c9.tc ∧ (∀ j, zq_byt (F j)) ∧ (∀ j, j < S.tp_size → 0 ≤ j → F j = S.tp_bytes j) ∧ (∀ (i : Nat) (x : Int), (zq_fb20 v1 v2 v3 v4 v5)[i]? = some x → F (S.tp_size + i) = x) := by
  have low : ∀ {c9 : CW}, zq_tcS c c9 → 1 ≤ c9.bc ∧ 41000 ≤ c9.bs ∧ (512 ≤ c9.tc ∧ c9.tc ≤ 20500) := fun h => by
    obtain ⟨t, x, s, rfl, r1, r2, r3⟩ := h
    have g1 := zq_gL_le ht.1 ht.2
    have g2 := zq_gL_le r1.1 r1.2
    exact ⟨by show 1 ≤ x; omega, by show 41000 ≤ s; omega, r1⟩
  obtain ⟨c1, F1, e1, t1, s1, b1, l1, n1⟩ := zq_E_tput hb h0 (by omega) ht hs (by omega) (by omega) v1
  obtain ⟨p1, p2, p3⟩ := low t1
  obtain ⟨c2, F2, e2, t2', s2, b2, l2, n2⟩ := zq_E_tput (c := c1) (S := zq_tpw S F1 (S.tp_size + 4)) b1 (by show 0 ≤ S.tp_size + 4; omega) (by show S.tp_size + 4 + 4 ≤ 10240; omega) p3 s1 p1 p2 v2
  have t2 := zq_tcS_tr t1 t2'
  obtain ⟨p1, p2, p3⟩ := low t2
  obtain ⟨c3, F3, e3, t3', s3, b3, l3, n3⟩ := zq_E_tput (c := c2) (S := zq_tpw S F2 (S.tp_size + 4 + 4)) b2 (by show 0 ≤ S.tp_size + 4 + 4; omega) (by show S.tp_size + 4 + 4 + 4 ≤ 10240; omega) p3 s2 p1 p2 v3
  have t3 := zq_tcS_tr t2 t3'
  obtain ⟨p1, p2, p3⟩ := low t3
  obtain ⟨c4, F4, e4, t4', s4, b4, l4, n4⟩ := zq_E_tput (c := c3) (S := zq_tpw S F3 (S.tp_size + 4 + 4 + 4)) b3 (by show 0 ≤ S.tp_size + 4 + 4 + 4; omega) (by show S.tp_size + 4 + 4 + 4 + 4 ≤ 10240; omega) p3 s3 p1 p2 v4
  have t4 := zq_tcS_tr t3 t4'
  obtain ⟨p1, p2, p3⟩ := low t4
  obtain ⟨c5, F5, e5, t5', s5, b5, l5, n5⟩ := zq_E_tput (c := c4) (S := zq_tpw S F4 (S.tp_size + 4 + 4 + 4 + 4)) b4 (by show 0 ≤ S.tp_size + 4 + 4 + 4 + 4; omega) (by show S.tp_size + 4 + 4 + 4 + 4 + 4 ≤ 10240; omega) p3 s4 p1 p2 v5
  have t5 := zq_tcS_tr t4 t5'
  have z : S.tp_size + 4 + 4 + 4 + 4 + 4 = S.tp_size + 20 := by omega
  refine ⟨c5, F5, ?_, t5, by have : S.tp_size + 4 + 4 + 4 + 4 + 4 ≤ c5.tc := s5; omega, b5, ?_, ?_⟩
  · rw [s_WT_feed, zq_mb2_eq (zq_e_size c S), zq_w32i (z := S.tp_size) (by omega) (by omega), if_pos (by omega), zq_mb3_eq e1, zq_mb3_eq e2]
    refine (zq_mb3_eq e3).trans ?_
    refine (zq_mb3_eq e4).trans ?_
    refine (zq_mb3_eq e5).trans ?_
    show some ((0, S.tp_size + 4 + 4 + 4 + 4 + 4), c5, zq_tpw S F5 (S.tp_size + 4 + 4 + 4 + 4 + 4)) = _
    rw [z]
  · intro j hj h2
    have a5 := l5 j (by show j < S.tp_size + 4 + 4 + 4 + 4; omega) h2
    have a4 := l4 j (by show j < S.tp_size + 4 + 4 + 4; omega) h2
    have a3 := l3 j (by show j < S.tp_size + 4 + 4; omega) h2
    have a2 := l2 j (by show j < S.tp_size + 4; omega) h2
    exact a5.trans (a4.trans (a3.trans (a2.trans (l1 j hj h2))))
  · intro i x hx
    have hlen : ∀ v, (zq_by4 v).length = 4 := fun _ => rfl
    have hi : i < 20 := by
      have := (List.getElem?_eq_some_iff.mp hx).1
      simp [zq_fb20, hlen] at this; omega
    unfold zq_fb20 at hx
    by_cases c5' : 16 ≤ i
    · rw [List.getElem?_append_right (by simp [hlen]; omega)] at hx
      have := n5 _ x hx
      rw [← this]; congr 1; simp only [List.length_append, hlen]; show _ = S.tp_size + 4 + 4 + 4 + 4 + _; omega
    rw [List.getElem?_append_left (by simp [hlen]; omega)] at hx
    have a5 := l5 (S.tp_size + i) (by show _ < S.tp_size + 4 + 4 + 4 + 4; omega) (by omega)
    rw [a5]
    by_cases c4' : 12 ≤ i
    · rw [List.getElem?_append_right (by simp [hlen]; omega)] at hx
      have := n4 _ x hx
      refine Eq.trans ?_ this
      show F4 _ = F4 _
      congr 1; simp only [List.length_append, hlen]; show _ = S.tp_size + 4 + 4 + 4 + _; omega
    rw [List.getElem?_append_left (by simp [hlen]; omega)] at hx
    have a4 := l4 (S.tp_size + i) (by show _ < S.tp_size + 4 + 4 + 4; omega) (by omega)
    refine Eq.trans a4 ?_
    by_cases c3' : 8 ≤ i
    · rw [List.getElem?_append_right (by simp [hlen]; omega)] at hx
      have := n3 _ x hx
      refine Eq.trans ?_ this
      show F3 _ = F3 _
      congr 1; simp only [List.length_append, hlen]; show _ = S.tp_size + 4 + 4 + _; omega
    rw [List.getElem?_append_left (by simp [hlen]; omega)] at hx
    have a3 := l3 (S.tp_size + i) (by show _ < S.tp_size + 4 + 4; omega) (by omega)
    refine Eq.trans a3 ?_
    by_cases c2' : 4 ≤ i
    · rw [List.getElem?_append_right (by simp [hlen]; omega)] at hx
      have := n2 _ x hx
      refine Eq.trans ?_ this
      show F2 _ = F2 _
      congr 1; simp only [hlen]; show _ = S.tp_size + 4 + _; omega
    rw [List.getElem?_append_left (by simp [hlen]; omega)] at hx
    have a2 := l2 (S.tp_size + i) (by show _ < S.tp_size + 4; omega) (by omega)
    refine Eq.trans a2 ?_
    exact n1 i x hx
set_option maxRecDepth 100000 in
def zq_apM (M : MS) (xs : List Int) : MS := MS.w_m_length (MS.w_m_tape M (zq_wrt M.m_tape M.m_length xs)) (M.m_length + xs.length)
set_option maxRecDepth 100000 in
def zq_pk5 (a b c d e : Int) (j : Nat) : Int := if j < 4 then a else if j < 8 then b else if j < 12 then c else if j < 16 then d else e
set_option maxRecDepth 100000 in
def zq_fbj (a b c d e : Int) (j : Nat) : Int := sb (gShr (zq_pk5 a b c d e j) (24 - (8 * (gRem (j : Int) 4))))
set_option maxRecDepth 100000 in
theorem zq_E_fst {M : MS} (h0 : 0 ≤ M.m_length) (h1 : M.m_length + 20 ≤ 65536) (a b c d e : Int) (k j : Nat) (hj : j < 20) (xs : List Int) (hx : xs.length = j) :
    q_Mo_feed_33 (k + 1) a b c d e (j : Int) (zq_apM M xs) = q_Mo_feed_33 k a b c d e ((j + 1 : Nat) : Int) (zq_apM M (xs ++ [zq_fbj a b c d e j])) := by
  have st : ∀ t : Int, t = zq_pk5 a b c d e j → q_Mo_feed_86 (q_Mo_feed_33 k) a b c d e (j : Int) t (zq_apM M xs) = q_Mo_feed_33 k a b c d e ((j + 1 : Nat) : Int) (zq_apM M (xs ++ [zq_fbj a b c d e j])) := by
    intro t ht
    subst ht
    rw [q_Mo_feed_86, if_pos (show (0 : Int) ≤ (zq_apM M xs).m_length ∧ (zq_apM M xs).m_length < (65536 : Int) from ⟨by show (0 : Int) ≤ M.m_length + xs.length; omega, by show M.m_length + xs.length < 65536; omega⟩)]
    have e1 := zq_wrt_snoc M.m_tape M.m_length xs (zq_fbj a b c d e j)
    show q_Mo_feed_33 k a b c d e ((j : Int) + 1) (MS.w_m_length (MS.w_m_tape (zq_apM M xs) (aU (zq_wrt M.m_tape M.m_length xs) (M.m_length + xs.length) (zq_fbj a b c d e j))) (M.m_length + xs.length + 1)) = _
    rw [e1]
    have e2 : (((xs ++ [zq_fbj a b c d e j]).length : Nat) : Int) = (xs.length : Int) + 1 := by simp
    show _ = q_Mo_feed_33 k a b c d e ((j + 1 : Nat) : Int) (MS.w_m_length (MS.w_m_tape M (zq_wrt M.m_tape M.m_length (xs ++ [zq_fbj a b c d e j]))) (M.m_length + ((xs ++ [zq_fbj a b c d e j]).length : Nat)))
    rw [e2, show M.m_length + ((xs.length : Int) + 1) = M.m_length + xs.length + 1 by omega]
    rfl
  rw [q_Mo_feed_33, zq_w32i (z := (j : Int)) (by omega) (by omega), if_neg (by omega)]
  by_cases c4 : 4 ≤ (j : Int)
  · rw [if_pos c4]
    by_cases c8 : 8 ≤ (j : Int)
    · rw [if_pos c8]
      by_cases c12 : 12 ≤ (j : Int)
      · rw [if_pos c12]
        by_cases c16 : 16 ≤ (j : Int)
        · rw [if_pos c16]; exact st _ (by unfold zq_pk5; rw [if_neg (by omega), if_neg (by omega), if_neg (by omega), if_neg (by omega)])
        · rw [if_neg c16]; exact st _ (by unfold zq_pk5; rw [if_neg (by omega), if_neg (by omega), if_neg (by omega), if_pos (by omega)])
      · rw [if_neg c12]; exact st _ (by unfold zq_pk5; rw [if_neg (by omega), if_neg (by omega), if_pos (by omega)])
    · rw [if_neg c8]; exact st _ (by unfold zq_pk5; rw [if_neg (by omega), if_pos (by omega)])
  · rw [if_neg c4]; exact st _ (by unfold zq_pk5; rw [if_pos (by omega)])
set_option maxRecDepth 100000 in
theorem zq_E_fall {M : MS} (h0 : 0 ≤ M.m_length) (h1 : M.m_length + 20 ≤ 65536) (a b c d e : Int) : ∀ (n k j : Nat), j + n = 20 → q_Mo_feed_33 (k + n) a b c d e (j : Int) (zq_apM M ((List.range j).map (zq_fbj a b c d e))) = q_Mo_feed_33 k a b c d e 20 (zq_apM M ((List.range 20).map (zq_fbj a b c d e)))
  | 0, k, j, h => by have : j = 20 := by omega
                     subst this; rfl
  | n + 1, k, j, h => by
    rw [← Nat.add_assoc, zq_E_fst h0 h1 a b c d e (k + n) j (by omega) _ (by simp)]
    have := zq_E_fall h0 h1 a b c d e n k (j + 1) (by omega)
    rw [← this, List.range_succ, List.map_append]
    rfl
set_option maxRecDepth 100000 in
theorem zq_fb_eq (a b c d e : Int) : (List.range 20).map (zq_fbj a b c d e) = zq_fb20 a b c d e := by
  have g : ∀ j : Nat, j < 20 → 24 - 8 * gRem (j : Int) 4 = 24 - 8 * ((j % 4 : Nat) : Int) := by decide
  have f : ∀ j : Nat, j < 20 → zq_fbj a b c d e j = sb (gShr (zq_pk5 a b c d e j) (24 - 8 * ((j % 4 : Nat) : Int))) := fun j hj => by unfold zq_fbj; rw [g j hj]
  have r : List.range 20 = [0, 1, 2, 3, 4, 5, 6, 7, 8, 9, 10, 11, 12, 13, 14, 15, 16, 17, 18, 19] := by decide
  rw [r]
  simp only [List.map_cons, List.map_nil, f 0 (by decide), f 1 (by decide), f 2 (by decide), f 3 (by decide), f 4 (by decide), f 5 (by decide), f 6 (by decide), f 7 (by decide), f 8 (by decide), f 9 (by decide), f 10 (by decide), f 11 (by decide), f 12 (by decide), f 13 (by decide), f 14 (by decide), f 15 (by decide), f 16 (by decide), f 17 (by decide), f 18 (by decide), f 19 (by decide)]
  rfl
set_option maxRecDepth 100000 in
theorem zq_E_feedM {M : MS} (h0 : 0 ≤ M.m_length) (h1 : M.m_length + 20 ≤ 10240) (a b c d e : Int) : s_Mo_feed M a b c d e = some (M.m_length + 20, zq_apM (MS.w_m_code M 0) (zq_fb20 a b c d e)) := by
  rw [s_Mo_feed, zq_w32i (z := M.m_length + 20) (by omega) (by omega), if_pos (by omega), q_Mo_feed_18, zq_w32i (z := 0) (by omega) (by omega), if_pos (by omega)]
  have e0 : MS.w_m_code M 0 = zq_apM (MS.w_m_code M 0) ((List.range 0).map (zq_fbj a b c d e)) := by
    show MS.w_m_code M 0 = zq_apM (MS.w_m_code M 0) []
    unfold zq_apM
    rw [zq_wrt_nil]
    show _ = MS.w_m_length (MS.w_m_tape (MS.w_m_code M 0) M.m_tape) (M.m_length + ((0 : Nat) : Int))
    rw [show M.m_length + ((0 : Nat) : Int) = M.m_length by omega]
  have := zq_E_fall (M := MS.w_m_code M 0) h0 (by show M.m_length + 20 ≤ 65536; omega) a b c d e 20 999980 0 rfl
  rw [show (999980 + 20 : Nat) = fU from rfl, ← e0, zq_fb_eq] at this
  refine this.trans ?_
  rw [show (999980 : Nat) = 999979 + 1 from rfl, q_Mo_feed_33, zq_w32i (z := 20) (by omega) (by omega), if_pos (by omega)]
  rfl
set_option maxRecDepth 100000 in
theorem zq_nU_nU {α : Type} (f : Nat → α) (i : Nat) (x y : α) : nU (nU f i x) i y = nU f i y := by
  funext j; unfold nU; by_cases h : j = i
  · rw [if_pos h, if_pos h]
  · rw [if_neg h, if_neg h, if_neg h]
set_option maxRecDepth 100000 in
theorem zq_nU_self {α : Type} (f : Nat → α) (i : Nat) : nU f i (f i) = f := by
  funext j; unfold nU; by_cases h : j = i
  · rw [if_pos h, h]
  · rw [if_neg h]
set_option maxRecDepth 100000 in
def zq_ptw (S : WS) (i : Nat) (f g : Int → Int64) (n : Int) (l : Int64) : WS := WS.w_pt_lastTime (WS.w_pt_size (WS.w_pt_values (WS.w_pt_times S (nU S.pt_times i f)) (nU S.pt_values i g)) (nU S.pt_size i n)) (nU S.pt_lastTime i l)
set_option maxRecDepth 100000 in
/-- only the room of one row of points has changed -/
def zq_pcS (c c9 : CW) (i : Nat) : Prop := ∃ (p : Int) (b s : Nat), c9 = CW.w_pv (CW.w_pc (CW.w_bs (CW.w_bc c b) s) (nU c.pc i p)) (nU c.pv i p) ∧ (0 ≤ p ∧ p ≤ 100000) ∧ (b ≤ c.bc ∧ c.bc ≤ b + 2) ∧ (s ≤ c.bs ∧ c.bs ≤ s + 2600)
set_option maxRecDepth 100000 in
theorem zq_E_ptadd62 {c : CW} {S : WS} {i : Nat} (h0 : 0 ≤ S.pt_size i) (h1 : S.pt_size i < c.pc i) (h2 : S.pt_size i < c.pv i) (t v : Int64) : q_Pt_add_62 c i t v S = some ((), c, zq_ptw S i (aU (S.pt_times i) (S.pt_size i) t) (aU (S.pt_values i) (S.pt_size i) v) (S.pt_size i + 1) t) := by
  rw [q_Pt_add_62, if_pos ⟨h0, h1⟩, if_pos ⟨h0, h2⟩]
  rfl
set_option maxRecDepth 100000 in
theorem zq_E_ptadd {c : CW} {S : WS} {i : Nat} (h : zq_ptI c S i) (hpv : c.pc i = c.pv i) (hsz : S.pt_size i ≤ 640) (hb : 2 ≤ c.bc) (hs : 2600 ≤ c.bs) (t v : Int64) :
    ∃ (c9 : CW) (f g : Int → Int64), s_Pt_add c S i t v = some ((), c9, zq_ptw S i f g (S.pt_size i + 1) t) ∧ zq_pcS c c9 i ∧ S.pt_size i + 1 ≤ c9.pc i ∧ c9.pc i = c9.pv i ∧ (∀ j, 0 ≤ j → j < S.pt_size i → f j = S.pt_times i j ∧ g j = S.pt_values i j) ∧ f (S.pt_size i) = t ∧ g (S.pt_size i) = v := by
  obtain ⟨⟨p1, p2, p3, p4, p5⟩, p6, p7, p8⟩ := h
  rw [s_Pt_add, zq_w32i (z := c.pc i) (by omega) (by omega), zq_w32i (z := S.pt_size i) (by omega) (by omega), zq_w32i (z := c.pv i) (by omega) (by omega)]
  by_cases c1 : c.pc i ≤ S.pt_size i
  · rw [if_pos c1]
    have hm : max 4 (w32 (2 * S.pt_size i)) = max 4 (2 * S.pt_size i) := by rw [zq_w32i (by omega) (by omega)]
    have e : q_Pt_add_24 c i t v S = (if ((0 : Int) ≤ c.pc i ∧ c.pc i ≤ 2147483647) ∧ ((0 : Int) ≤ max 4 (w32 (2 * S.pt_size i)) ∧ max 4 (w32 (2 * S.pt_size i)) ≤ 67108864) ∧ c.pc i ≠ max 4 (w32 (2 * S.pt_size i)) then if 1 ≤ c.bc ∧ (max 4 (w32 (2 * S.pt_size i))).toNat ≤ c.bs then if ((0 : Int) ≤ c.pv i ∧ c.pv i ≤ 2147483647) ∧ ((0 : Int) ≤ max 4 (w32 (2 * S.pt_size i)) ∧ max 4 (w32 (2 * S.pt_size i)) ≤ 67108864) ∧ c.pv i ≠ max 4 (w32 (2 * S.pt_size i)) then if 1 ≤ c.bc - 1 ∧ (max 4 (w32 (2 * S.pt_size i))).toNat ≤ c.bs - (max 4 (w32 (2 * S.pt_size i))).toNat then q_Pt_add_62 (CW.w_pv (CW.w_pc (CW.w_bs (CW.w_bc c (c.bc - 1 - 1)) (c.bs - (max 4 (w32 (2 * S.pt_size i))).toNat - (max 4 (w32 (2 * S.pt_size i))).toNat)) (nU c.pc i (max 4 (w32 (2 * S.pt_size i))))) (nU c.pv i (max 4 (w32 (2 * S.pt_size i))))) i t v (WS.w_pt_values (WS.w_pt_times S (nU S.pt_times i (aK (S.pt_times i) 0 (c.pc i) (max 4 (w32 (2 * S.pt_size i)))))) (nU S.pt_values i (aK (S.pt_values i) 0 (c.pv i) (max 4 (w32 (2 * S.pt_size i)))))) else none else none else none else none) := rfl
    rw [e, hm, if_pos ⟨by omega, by omega, by omega⟩, if_pos ⟨by omega, by omega⟩, if_pos ⟨by omega, by omega, by omega⟩, if_pos ⟨by omega, by omega⟩]
    have hat : ∀ {α : Type} (f : Nat → α) (x : α), nU f i x i = x := fun f x => nU_at f i x
    rw [zq_E_ptadd62 (by show (0 : Int) ≤ S.pt_size i; omega) (by show S.pt_size i < nU c.pc i _ i; rw [hat]; omega) (by show S.pt_size i < nU c.pv i _ i; rw [hat]; omega) t v]
    refine ⟨_, aU (aK (S.pt_times i) 0 (c.pc i) (max 4 (2 * S.pt_size i))) (S.pt_size i) t, aU (aK (S.pt_values i) 0 (c.pv i) (max 4 (2 * S.pt_size i))) (S.pt_size i) v, ?_, ⟨max 4 (2 * S.pt_size i), c.bc - 1 - 1, c.bs - (max 4 (2 * S.pt_size i)).toNat - (max 4 (2 * S.pt_size i)).toNat, rfl, by omega, by omega, by omega⟩, ?_, ?_, ?_, zq_aU_at _ _ _, zq_aU_at _ _ _⟩
    · congr 3
      unfold zq_ptw
      show WS.w_pt_lastTime (WS.w_pt_size (WS.w_pt_values (WS.w_pt_times S (nU (nU S.pt_times i _) i (aU (nU S.pt_times i _ i) _ t))) (nU (nU S.pt_values i _) i (aU (nU S.pt_values i _ i) _ v))) (nU S.pt_size i (S.pt_size i + 1))) (nU S.pt_lastTime i t) = _
      rw [zq_nU_nU, zq_nU_nU, hat, hat]
    · show S.pt_size i + 1 ≤ nU c.pc i _ i
      rw [hat]; omega
    · show nU c.pc i _ i = nU c.pv i _ i
      rw [hat, hat]
    · intro j j0 j1
      rw [zq_aU_ne _ _ _ _ (by omega), zq_aU_ne _ _ _ _ (by omega)]
      unfold aK
      rw [if_pos (by omega), if_pos (by omega)]
      exact ⟨rfl, rfl⟩
  · rw [if_neg c1, if_pos (by omega), zq_E_ptadd62 (by omega) (by omega) (by omega) t v]
    refine ⟨c, _, _, rfl, ⟨c.pc i, c.bc, c.bs, ?_, by omega, by omega, by omega⟩, by omega, hpv, ?_, zq_aU_at _ _ _, zq_aU_at _ _ _⟩
    · rw [zq_nU_self, hpv, zq_nU_self]
    · intro j j0 j1
      rw [zq_aU_ne _ _ _ _ (by omega), zq_aU_ne _ _ _ _ (by omega)]
      exact ⟨rfl, rfl⟩
/-! the relation of program and reference -/
set_option maxRecDepth 100000 in
abbrev zq_LB : Type := List (List Int × List Int)
set_option maxRecDepth 100000 in
def zq_encP : zq_LB → List Int
  | [] => []
  | [x] => x.1 ++ 61 :: x.2
  | x :: y :: r => x.1 ++ 61 :: (x.2 ++ 44 :: zq_encP (y :: r))
set_option maxRecDepth 100000 in
/-- where a label starts -/
def zq_posP : zq_LB → Nat → Int
  | [], _ => 0
  | _ :: _, 0 => 0
  | x :: r, k + 1 => (x.1.length : Int) + 1 + x.2.length + 1 + zq_posP r k
set_option maxRecDepth 100000 in
def zq_okB (l : zq_LB) : Prop := l.length ≤ 6 ∧ (∀ x ∈ l, (1 ≤ x.1.length ∧ x.1.length ≤ 24) ∧ (1 ≤ x.2.length ∧ x.2.length ≤ 24) ∧ (∀ b ∈ x.1, zq_wdB b = true) ∧ (∀ b ∈ x.2, zq_wdB b = true)) ∧ l.Pairwise (fun x y => zq_lexc x.1 y.1 = -1)
set_option maxRecDepth 100000 in
/-- labels -/
def zq_RLb (c : CW) (S : WS) (M : MS) (lb : Nat → zq_LB) : Prop := (c.N ≤ 256 ∧ (c.N : Int) = M.m_seriesCount) ∧ (∀ j, zq_byt (S.lr_letters j)) ∧ ∀ i, i < c.N → zq_okB (lb i) ∧ (zq_aH (S.se_letters i) 0 (zq_encP (lb i)) ∧ c.ln i = (zq_encP (lb i)).length ∧ c.lm i = (lb i).length ∧ ∀ (k : Nat) (x : List Int × List Int), (lb i)[k]? = some x → S.se_starts i k = zq_posP (lb i) k ∧ S.se_signs i k = zq_posP (lb i) k + x.1.length ∧ S.se_ends i k = zq_posP (lb i) k + x.1.length + 1 + x.2.length) ∧ (zq_aH M.m_texts (304 * (i : Int)) (zq_encP (lb i)) ∧ M.m_textLengths (i : Int) = (zq_encP (lb i)).length)
set_option maxRecDepth 100000 in
/-- points -/
def zq_RSt (c : CW) (S : WS) (M : MS) : Prop :=
  (∀ i, i < c.N → zq_ptI c S i ∧ c.pc i = c.pv i ∧ (∀ j, 0 ≤ j → j < S.pt_size i → 0 ≤ (S.pt_times i j).toInt ∧ (S.pt_times i j).toInt ≤ 1099511627775 ∧ (S.pt_times i j).toInt ≤ (S.pt_lastTime i).toInt) ∧ zq_cpts S i = zq_serP (i : Int) (zq_mpts M) ∧ S.pt_lastTime i = M.m_lasts (i : Int) ∧ (S.pt_lastTime i).toInt ≤ 1099511627775) ∧
  (S.st_horizon = M.m_horizon ∧ 0 ≤ S.st_horizon.toInt ∧ S.st_horizon.toInt ≤ 1099511627775) ∧ (S.st_headSize = M.m_head ∧ M.m_head = ((zq_mpts M).countP (fun x => x.2.2.2 == 0) : Nat)) ∧ (S.st_parcels = M.m_parcels ∧ 0 ≤ S.st_parcels ∧ S.st_parcels ≤ 32) ∧ (S.st_scars = M.m_scars ∧ 0 ≤ S.st_scars ∧ S.st_scars ≤ 64) ∧ zq_mpI M ∧ (∀ x ∈ zq_mpts M, 0 ≤ x.1 ∧ x.1 < (c.N : Int) ∧ (x.2.2.2 = 0 ∨ x.2.2.2 = 1)) ∧ M.m_points ≤ 640
set_option maxRecDepth 100000 in
/-- the place of a cell -/
def zq_plG (S : WS) (v : Nat) (r w : Int) : Int := if w32 (S.gd_named v) = 0 then 0 + w else r * S.gd_windows v + w
set_option maxRecDepth 100000 in
/-- the value of a label by its number; none has number -1 -/
def zq_lbK (l : zq_LB) (kk : Int) (v : List Int) : Prop := (kk = -1 ∧ v = []) ∨ ∃ (k : Nat) (x : List Int × List Int), kk = (k : Int) ∧ l[k]? = some x ∧ v = x.2
set_option maxRecDepth 100000 in
/-- the table -/
def zq_RX (c : CW) (S : WS) (M : MS) (lb : Nat → zq_LB) : Prop := (S.wt_hasTable = 0 ∧ M.m_isTable = 0) ∨ ((S.wt_hasTable = 1 ∧ M.m_isTable = 1 ∧ S.ev_stack 0 < 19) ∧ (S.gr_nameCount = M.m_names ∧ 0 ≤ M.m_names ∧ M.m_names ≤ 6) ∧ (S.gd_lines (S.ev_stack 0) = M.m_rows ∧ 0 ≤ M.m_rows ∧ M.m_rows ≤ 256) ∧ (S.gd_windows (S.ev_stack 0) = M.m_shownWindows ∧ 1 ≤ M.m_shownWindows ∧ M.m_shownWindows ≤ 64) ∧
  (∀ r w, 0 ≤ r → r < M.m_rows → 0 ≤ w → w < M.m_shownWindows → (0 ≤ zq_plG S (S.ev_stack 0) r w ∧ zq_plG S (S.ev_stack 0) r w < c.gd (S.ev_stack 0) ∧ zq_plG S (S.ev_stack 0) r w < c.gc (S.ev_stack 0)) ∧ (w32 (S.gd_there (S.ev_stack 0) (zq_plG S (S.ev_stack 0) r w)) = 0 ↔ w32 (M.m_isShown (64 * r + w)) = 0) ∧ (¬ w32 (S.gd_there (S.ev_stack 0) (zq_plG S (S.ev_stack 0) r w)) = 0 → S.gd_numbers (S.ev_stack 0) (zq_plG S (S.ev_stack 0) r w) = M.m_shown (64 * r + w))) ∧
  (0 < M.m_names → M.m_rows ≤ S.gr_size ∧ S.gr_size ≤ 256) ∧
  (∀ r n, 0 ≤ r → r < M.m_rows → 0 ≤ n → n < M.m_names → ∃ (i : Nat) (kk : Int) (v : List Int), S.gr_leaders r = (i : Int) ∧ i < c.N ∧ S.gr_labels ((i : Int) * 6 + n) = kk ∧ zq_lbK (lb i) kk v ∧ M.m_rowLengths (6 * r + n) = v.length ∧ zq_aH M.m_rowTexts ((6 * r + n) * 24) v))
set_option maxRecDepth 100000 in
/-- room -/
def zq_gdB (k : Nat) (c : CW) (S : WS) : Prop := (1000 + 100 * (512 - (k : Int)) + 3 * S.tp_size ≤ c.bc + zq_potC c) ∧ (2300000 + 5000 * (512 - (k : Int)) + 170 * S.tp_size ≤ c.bs + zq_potS c) ∧ (∀ j, j < 19 → 0 ≤ c.gc j ∧ c.gc j ≤ 16384 ∧ c.gd j = c.gc j) ∧ (0 ≤ c.mo ∧ c.mo ≤ 16384) ∧ (1 ≤ c.oc ∧ c.oc ≤ 65536)
set_option maxRecDepth 100000 in
/-- the tables of the stack are apart -/
def zq_RE (S : WS) : Prop := (∀ j, 0 ≤ j → j < 19 → S.ev_stack j < 19) ∧ (∀ i j, 0 ≤ i → i < 19 → 0 ≤ j → j < 19 → S.ev_stack i = S.ev_stack j → i = j)
set_option maxRecDepth 100000 in
def zq_RF (S : WS) (M : MS) : Prop := (S.wt_faultCode = M.m_faultCode ∧ S.wt_faultPlace = M.m_faultPlace) ∧ (zq_RE S ∧ M.m_starts 0 = 0)
set_option maxRecDepth 100000 in
/-- all of it, after k calls -/
def zq_RA (k : Nat) (c : CW) (S : WS) (M : MS) : Prop := k ≤ 512 ∧ zq_RT c S M ∧ zq_RSt c S M ∧ zq_RF S M ∧ (∃ lb, zq_RLb c S M lb ∧ zq_RX c S M lb) ∧ zq_gdB k c S ∧ 16 * M.m_points + S.tp_size ≤ 20 * (k : Int)
set_option maxRecDepth 100000 in
theorem zq_sumG_le {f : Nat → Int} {B : Int} : ∀ n : Nat, (∀ j, j < n → f j ≤ B) → zq_sumG f n ≤ n * B
  | 0, _ => by simp [zq_sumG]
  | n + 1, h => by
    have := zq_sumG_le n (fun j hj => h j (by omega))
    have h2 := h n (by omega)
    rw [zq_sumG, show ((n + 1 : Nat) : Int) * B = n * B + B by rw [Int.natCast_add, Int.add_mul]; omega]
    omega
set_option maxRecDepth 100000 in
theorem zq_gL_le17 {x : Int} (h : x ≤ 65536) : 0 ≤ zq_gL x ∧ zq_gL x ≤ 17 := by
  unfold zq_gL
  split
  · omega
  · have h2 : Nat.log2 x.toNat < 17 := (Nat.log2_lt (by omega)).mpr (by show x.toNat < 2 ^ 17; omega)
    omega
set_option maxRecDepth 100000 in
theorem zq_potC_le {c : CW} (h1 : c.tc ≤ 20500) (h2 : ∀ j, j < 19 → 0 ≤ c.gc j ∧ c.gc j ≤ 16384 ∧ c.gd j = c.gc j) (h3 : c.mo ≤ 16384) (h4 : c.oc ≤ 65536) : zq_potC c ≤ 697 := by
  have := zq_sumG_le (f := fun j => 2 * zq_gL (c.gc j)) (B := 34) 19 (fun j hj => by have := zq_gL_le17 (x := c.gc j) (by have := (h2 j hj).2.1; omega); show 2 * zq_gL (c.gc j) ≤ 34; omega)
  have a1 := zq_gL_le17 (x := c.tc) (by omega)
  have a2 := zq_gL_le17 (x := c.oc) (by omega)
  have a3 := zq_gL_le17 (x := c.mo) (by omega)
  unfold zq_potC
  omega
set_option maxRecDepth 100000 in
theorem zq_potS_le {c : CW} (h1 : c.tc ≤ 20500) (h2 : ∀ j, j < 19 → 0 ≤ c.gc j ∧ c.gc j ≤ 16384 ∧ c.gd j = c.gc j) (h3 : c.mo ≤ 16384) (h4 : c.oc ≤ 65536) : zq_potS c ≤ 2100000 := by
  have := zq_sumG_le (f := fun j => zq_gP (c.gc j)) (B := 98304) 19 (fun j hj => by have := h2 j hj; show zq_gP (c.gc j) ≤ 98304; unfold zq_gP; split <;> omega)
  unfold zq_potS
  split <;> omega
set_option maxRecDepth 100000 in
theorem zq_gdB_low {k : Nat} {c : CW} {S : WS} (h : zq_gdB k c S) (ht : c.tc ≤ 20500) (h0 : 0 ≤ S.tp_size) (hk : k < 512) : 400 ≤ c.bc ∧ 205000 ≤ c.bs := by
  obtain ⟨h1, h2, h3, h4, h5⟩ := h
  have := zq_potC_le ht h3 h4.2 h5.2
  have := zq_potS_le ht h3 h4.2 h5.2
  omega
set_option maxRecDepth 100000 in
def zq_thr (c : CW) : CW := CW.w_bs (CW.w_bc c (c.bc - 1)) (c.bs - 6)
set_option maxRecDepth 100000 in
theorem zq_gdB_thr {k : Nat} {c : CW} {S : WS} (h : zq_gdB k c S) (ht : c.tc ≤ 20500) (h0 : 0 ≤ S.tp_size) (hk : k < 512) : zq_gdB (k + 1) (zq_thr c) S := by
  have lo := zq_gdB_low h ht h0 hk
  obtain ⟨h1, h2, h3, h4, h5⟩ := h
  refine ⟨?_, ?_, h3, h4, h5⟩
  · show 1000 + 100 * (512 - ((k + 1 : Nat) : Int)) + 3 * S.tp_size ≤ ((c.bc - 1 : Nat) : Int) + zq_potC c
    omega
  · show 2300000 + 5000 * (512 - ((k + 1 : Nat) : Int)) + 170 * S.tp_size ≤ ((c.bs - 6 : Nat) : Int) + zq_potS c
    omega
set_option maxRecDepth 100000 in
theorem zq_gdB_up {k : Nat} {c : CW} {S S9 : WS} (h : zq_gdB k c S) (hS : S9.tp_size ≤ S.tp_size) : zq_gdB (k + 1) c S9 := by
  obtain ⟨h1, h2, h3, h4, h5⟩ := h
  exact ⟨by omega, by omega, h3, h4, h5⟩
set_option maxRecDepth 100000 in
/-- a call that throws leaves all as it was -/
theorem zq_RA_thr {k : Nat} {c : CW} {S : WS} {M : MS} (h : zq_RA k c S M) (hk : k < 512) (z : Int) : zq_RA (k + 1) (zq_thr c) S (MS.w_m_code M z) := by
  obtain ⟨h0, h1, h2, h3, ⟨lb, h4, h5⟩, h6, h7⟩ := h
  exact ⟨hk, h1, h2, h3, ⟨lb, h4, h5⟩, zq_gdB_thr h6 h1.2.2.1.2 h1.2.1.1 hk, by show 16 * M.m_points + S.tp_size ≤ _; omega⟩
set_option maxRecDepth 100000 in
/-- a call that changes nothing -/
theorem zq_RA_same {k : Nat} {c : CW} {S : WS} {M : MS} (h : zq_RA k c S M) (hk : k < 512) (z : Int) : zq_RA (k + 1) c S (MS.w_m_code M z) := by
  obtain ⟨h0, h1, h2, h3, ⟨lb, h4, h5⟩, h6, h7⟩ := h
  exact ⟨hk, h1, h2, h3, ⟨lb, h4, h5⟩, zq_gdB_up h6 (Int.le_refl _), by show 16 * M.m_points + S.tp_size ≤ _; omega⟩
set_option maxRecDepth 100000 in
theorem zq_RA_none {k : Nat} {c : CW} {S : WS} {M : MS} (hk : k < 512) (h : zq_RA k c S M) : zq_RA (k + 1) c S M := by
  obtain ⟨h0, h1, h2, h3, ⟨lb, h4, h5⟩, h6, h7⟩ := h
  exact ⟨hk, h1, h2, h3, ⟨lb, h4, h5⟩, zq_gdB_up h6 (Int.le_refl _), by omega⟩
set_option maxRecDepth 100000 in
theorem zq_RA_lo {k : Nat} {c : CW} {S : WS} {M : MS} (h : zq_RA k c S M) (hk : k < 512) : 400 ≤ c.bc ∧ 205000 ≤ c.bs := by
  obtain ⟨h0, h1, h2, h3, ⟨lb, h4, h5⟩, h6, h7⟩ := h
  exact zq_gdB_low h6 h1.2.2.1.2 h1.2.1.1 hk
set_option maxRecDepth 100000 in
theorem zq_e_existing {k : Nat} {c : CW} {S : WS} {M : MS} (h : zq_RA k c S M) (hk : k < 512) {a : Int} (ha : iR a) : s_WT_existing c S a = if 0 ≤ a ∧ a < (c.N : Int) then some ((0, a.toNat), c, S) else some ((3, 0), zq_thr c, S) := by
  have lo := zq_RA_lo h hk
  obtain ⟨h0, h1, h2, h3, ⟨lb, h4, h5⟩, h6, h7⟩ := h
  rw [s_WT_existing, if_pos ⟨ha, h4.1.1⟩]
  by_cases c1 : 0 ≤ a ∧ a < (c.N : Int)
  · rw [if_pos c1, if_pos c1]
  · rw [if_neg c1, if_neg c1, if_pos ⟨by omega, by omega⟩]; rfl
set_option maxRecDepth 100000 in
theorem zq_e_isSeries {k : Nat} {c : CW} {S : WS} {M : MS} (h : zq_RA k c S M) {a : Int} (ha : iR a) : s_Mo_isSeries M a = if 0 ≤ a ∧ a < (c.N : Int) then some (1, M) else some (0, M) := by
  obtain ⟨h0, h1, h2, h3, ⟨lb, h4, h5⟩, h6, h7⟩ := h
  have n1 := h4.1.1; have n2 := h4.1.2
  have a1 := ha.1; have a2 := ha.2
  rw [s_Mo_isSeries, zq_w32i (z := a) (by omega) (by omega), zq_w32i (z := M.m_seriesCount) (by omega) (by omega), ← n2]
  by_cases c1 : a < 0
  · rw [if_pos c1, if_neg (by omega)]
  · rw [if_neg c1]
    by_cases c2 : (c.N : Int) ≤ a
    · rw [if_pos c2, if_neg (by omega)]
    · rw [if_neg c2, if_pos (by omega)]
set_option maxRecDepth 100000 in
theorem zq_p_fault : st_fault zq_RA := by
  intro k c S M a hk h ha
  have lo := zq_RA_lo h hk
  have a1 := ha.1; have a2 := ha.2
  have hf := h.2.2.2.1.1
  by_cases c1 : a = 0
  · subst c1
    refine ⟨0, S.wt_faultCode, c, S, M.m_faultCode, MS.w_m_code M 0, 0, MS.w_m_code M 0, ?_, ?_, rfl, Or.inl ⟨rfl, by decide, by rw [hf.1]⟩, zq_RA_same h hk 0⟩
    · rw [s_WT_fault, if_pos (by decide), q_WT_fault_19, if_pos (by decide)]
    · rw [s_Mo_fault, if_pos (by decide), q_Mo_fault_10, q_Mo_fault_15, if_pos (by decide), if_pos (by decide)]
  · by_cases c2 : a = 1
    · subst c2
      refine ⟨0, S.wt_faultPlace, c, S, M.m_faultPlace, MS.w_m_code M 0, 0, MS.w_m_code M 0, ?_, ?_, rfl, Or.inl ⟨rfl, by decide, by rw [hf.2]⟩, zq_RA_same h hk 0⟩
      · rw [s_WT_fault, if_neg (by decide), if_pos (by decide), q_WT_fault_19, if_neg (by decide)]
      · rw [s_Mo_fault, if_neg (by decide), if_pos (by decide), q_Mo_fault_10, q_Mo_fault_15, if_pos (by decide), if_neg (by decide)]
    · refine ⟨3, 0, zq_thr c, S, 0, MS.w_m_code M 1, 1, MS.w_m_code M 1, ?_, ?_, rfl, Or.inr ⟨rfl, by decide⟩, zq_RA_thr h hk 1⟩
      · rw [s_WT_fault, zq_w32i (z := a) (by omega) (by omega), if_neg c1, if_neg c2, if_pos ⟨by omega, by omega⟩]; rfl
      · rw [s_Mo_fault, zq_w32i (z := a) (by omega) (by omega), if_neg c1, if_neg c2, q_Mo_fault_15, if_neg (by decide)]
set_option maxRecDepth 100000 in
theorem zq_RA_len {k : Nat} {c : CW} {S : WS} {M : MS} (h : zq_RA k c S M) (hk : k < 512) {n z : Int} (h0 : 0 ≤ n) (h1 : n ≤ S.tp_size) : zq_RA (k + 1) c (WS.w_tp_size S n) (MS.w_m_length (MS.w_m_code M z) n) := by
  obtain ⟨h0', ⟨t1, t2, t3, t4, t5, t6⟩, h2, h3, ⟨lb, h4, h5⟩, h6, h7⟩ := h
  refine ⟨hk, ⟨rfl, ⟨h0, by show n ≤ 10240; omega, by show n ≤ c.tc; omega⟩, t3, fun j j0 j1 => t4 j j0 (by have : j < n := j1; omega), t5, t6⟩, h2, h3, ⟨lb, h4, h5⟩, zq_gdB_up h6 h1, by show 16 * M.m_points + n ≤ _; omega⟩
set_option maxRecDepth 100000 in
theorem zq_e_keep {c : CW} {S : WS} {M : MS} (h : zq_RT c S M) {n : Int} (h0 : 0 ≤ n) (h1 : n ≤ S.tp_size) : s_Tp_keep c S n = some ((), WS.w_tp_size S n) := by
  have := h.2.1
  rw [s_Tp_keep, zq_w32i (z := n) (by omega) (by omega), if_neg (by omega), zq_w32i (z := S.tp_size) (by omega) (by omega)]
  by_cases c1 : S.tp_size ≤ n
  · rw [if_pos c1, show n = S.tp_size by omega]
  · rw [if_neg c1]
set_option maxRecDepth 100000 in
theorem zq_p_end : st_end zq_RA := by
  intro k c S M a hk h ha
  have lo := zq_RA_lo h hk
  have a1 := ha.1; have a2 := ha.2
  have ht := h.2.1
  have t1 := ht.1; have t2 := ht.2.1
  by_cases c1 : 0 ≤ a ∧ a ≤ S.tp_size
  · refine ⟨0, (), c, WS.w_tp_size S a, (), MS.w_m_length (MS.w_m_code M 0) a, 0, MS.w_m_length (MS.w_m_code M 0) a, ?_, ?_, rfl, Or.inl ⟨rfl, by decide, trivial⟩, zq_RA_len h hk c1.1 c1.2⟩
    · rw [s_WT_end, zq_w32i (z := a) (by omega) (by omega), if_neg (by omega), zq_mb2_eq (zq_e_size c S), zq_w32i (z := S.tp_size) (by omega) (by omega), if_pos c1.2, zq_mb2_eq (zq_e_keep ht c1.1 c1.2)]
    · rw [s_Mo_end, zq_w32i (z := a) (by omega) (by omega), if_neg (by omega), ← t1, zq_w32i (z := S.tp_size) (by omega) (by omega), if_pos c1.2, q_Mo_end_18, if_pos (by decide)]; rfl
  · refine ⟨2, (), zq_thr c, S, (), MS.w_m_code M 1, 1, MS.w_m_code M 1, ?_, ?_, rfl, Or.inr ⟨rfl, by decide⟩, zq_RA_thr h hk 1⟩
    · rw [s_WT_end, zq_w32i (z := a) (by omega) (by omega)]
      by_cases c2 : a < 0
      · rw [if_pos c2, q_WT_end_15, if_pos ⟨by omega, by omega⟩]; rfl
      · rw [if_neg c2, zq_mb2_eq (zq_e_size c S), zq_w32i (z := S.tp_size) (by omega) (by omega), if_neg (by omega), q_WT_end_15, if_pos ⟨by omega, by omega⟩]; rfl
    · have e : q_Mo_end_13 a M = some ((), MS.w_m_code M 1) := by
        rw [q_Mo_end_13, q_Mo_end_18, if_neg (by decide)]; rfl
      rw [s_Mo_end, zq_w32i (z := a) (by omega) (by omega)]
      by_cases c2 : a < 0
      · rw [if_pos c2, e]
      · rw [if_neg c2, ← t1, zq_w32i (z := S.tp_size) (by omega) (by omega), if_neg (by omega), e]
set_option maxRecDepth 100000 in
theorem zq_p_last : st_last zq_RA := by
  intro k c S M a hk h ha
  have lo := zq_RA_lo h hk
  have hN := h.2.2.2.2.1
  by_cases c1 : 0 ≤ a ∧ a < (c.N : Int)
  · obtain ⟨lb, h4, h5⟩ := hN
    have n1 := h4.1.1
    have hs := h.2.2.1.1 a.toNat (by omega)
    have ea : ((a.toNat : Nat) : Int) = a := by omega
    refine ⟨0, S.pt_lastTime a.toNat, c, S, M.m_lasts a, MS.w_m_code M 0, 0, MS.w_m_code M 0, ?_, ?_, rfl, Or.inl ⟨rfl, by decide, by rw [hs.2.2.2.2.1, ea]⟩, zq_RA_same h hk 0⟩
    · rw [s_WT_last, zq_e_existing h hk ha, if_pos c1]
      show (if a.toNat < c.N then _ else none) = _
      rw [if_pos (by omega)]
      show (if a.toNat < c.N then _ else none) = _
      rw [if_pos (by omega)]
      rfl
    · rw [s_Mo_last, zq_mb2_eq ((zq_e_isSeries h ha).trans (if_pos c1)), if_neg (by decide), q_Mo_last_14, if_pos (by decide), if_pos (by omega)]
  · refine ⟨3, ll 0, zq_thr c, S, ll 0, MS.w_m_code M 1, 1, MS.w_m_code M 1, ?_, ?_, rfl, Or.inr ⟨rfl, by decide⟩, zq_RA_thr h hk 1⟩
    · rw [s_WT_last, zq_e_existing h hk ha, if_neg c1]; rfl
    · rw [s_Mo_last, zq_mb2_eq ((zq_e_isSeries h ha).trans (if_neg c1)), if_pos (by decide), q_Mo_last_14, if_neg (by decide)]
set_option maxRecDepth 100000 in
theorem zq_encP_len : ∀ l : zq_LB, (∀ x ∈ l, x.1.length ≤ 24 ∧ x.2.length ≤ 24) → (zq_encP l).length ≤ 50 * l.length
  | [], _ => by simp [zq_encP]
  | [x], h => by have := h x (by simp); simp [zq_encP]; omega
  | x :: y :: r, h => by
    have := h x (by simp)
    have ih := zq_encP_len (y :: r) (fun z hz => h z (List.mem_cons_of_mem _ hz))
    simp only [zq_encP, List.length_append, List.length_cons] at ih ⊢
    omega
set_option maxRecDepth 100000 in
theorem zq_okB_len {l : zq_LB} (h : zq_okB l) : (zq_encP l).length ≤ 300 := by
  have := zq_encP_len l (fun x hx => ⟨(h.2.1 x hx).1.2, (h.2.1 x hx).2.1.2⟩)
  have := h.1
  omega
set_option maxRecDepth 100000 in
theorem zq_p_letter : st_letter zq_RA := by
  intro k c S M a b hk h ha hb
  have lo := zq_RA_lo h hk
  have b1 := hb.1; have b2 := hb.2
  by_cases c1 : 0 ≤ a ∧ a < (c.N : Int)
  · obtain ⟨lb, h4, h5⟩ := h.2.2.2.2.1
    have n1 := h4.1.1
    obtain ⟨q1, ⟨q2, q3, -⟩, q4, q5⟩ := h4.2.2 a.toNat (by omega)
    have ea : ((a.toNat : Nat) : Int) = a := by omega
    rw [ea] at q4 q5
    have hl := zq_okB_len q1
    have eS : ∃ r, s_WT_letter c S a b = some ((0, r), c, S) ∧ s_Mo_letter M a b = some (r, MS.w_m_code M 0) := by
      have e1 : s_WT_letter c S a b = mb2 (s_Se_letterAt c S a.toNat b) (fun r6 S6 => some ((0, r6), c, S6)) := by
        rw [s_WT_letter, zq_e_existing h hk ha, if_pos c1]
        show (if a.toNat < c.N then _ else none) = _
        rw [if_pos (by omega)]
      have e2 : s_Mo_letter M a b = q_Mo_letter_14 a b 0 M := by
        rw [s_Mo_letter, zq_mb2_eq ((zq_e_isSeries h ha).trans (if_pos c1)), if_neg (by decide)]
      rw [e1, e2, q_Mo_letter_14, if_pos (show w32 0 ≤ 0 by decide), s_Se_letterAt, zq_w32i (z := b) (by omega) (by omega), q3, q5, zq_w32i (z := ((zq_encP (lb a.toNat)).length : Int)) (by omega) (by omega)]
      by_cases c2 : b < 0
      · exact ⟨-1, by rw [if_pos c2]; rfl, by rw [if_pos c2]; rfl⟩
      · rw [if_neg c2, if_neg c2, if_pos (show (0 : Int) ≤ a ∧ a < 256 by omega)]
        by_cases c3 : ((zq_encP (lb a.toNat)).length : Int) ≤ b
        · exact ⟨-1, by rw [if_pos c3]; rfl, by rw [if_neg (by omega)]; rfl⟩
        · rw [if_neg c3, if_pos (show b < ((zq_encP (lb a.toNat)).length : Int) by omega), if_pos (by omega), if_pos (by omega)]
          have hx : (zq_encP (lb a.toNat))[b.toNat]? = some ((zq_encP (lb a.toNat))[b.toNat]'(by omega)) := List.getElem?_eq_getElem _
          have z1 := q2 b.toNat _ hx
          have z2 := q4 b.toNat _ hx
          rw [show (0 : Int) + ((b.toNat : Nat) : Int) = b by omega] at z1
          rw [show 304 * a + ((b.toNat : Nat) : Int) = 304 * a + b by omega] at z2
          exact ⟨_, by rw [z1]; rfl, by rw [z2]⟩
    obtain ⟨r, r1, r2⟩ := eS
    exact ⟨0, r, c, S, r, MS.w_m_code M 0, 0, MS.w_m_code M 0, r1, r2, rfl, Or.inl ⟨rfl, by decide, rfl⟩, zq_RA_same h hk 0⟩
  · refine ⟨3, 0, zq_thr c, S, 0, MS.w_m_code M 1, 1, MS.w_m_code M 1, ?_, ?_, rfl, Or.inr ⟨rfl, by decide⟩, zq_RA_thr h hk 1⟩
    · rw [s_WT_letter, zq_e_existing h hk ha, if_neg c1]; rfl
    · rw [s_Mo_letter, zq_mb2_eq ((zq_e_isSeries h ha).trans (if_neg c1)), if_pos (by decide), q_Mo_letter_14, if_neg (by decide)]
set_option maxRecDepth 100000 in
theorem zq_fb20_len (a b c d e : Int) : (zq_fb20 a b c d e).length = 20 := rfl
set_option maxRecDepth 100000 in
theorem zq_fb20_byt (a b c d e : Int) : ∀ x ∈ zq_fb20 a b c d e, zq_byt x := by
  intro x hx
  simp only [zq_fb20, zq_by4, List.mem_append, List.mem_cons, List.not_mem_nil, or_false] at hx
  have h : ∃ y, x = sb y := by
    rcases hx with (((h | h) | h) | h) | h <;> rcases h with h | h | h | h <;> exact ⟨_, h⟩
  obtain ⟨y, rfl⟩ := h
  exact zq_sb_byt y
set_option maxRecDepth 100000 in
theorem zq_p_feed : st_feed zq_RA := by
  intro k c S M v1 v2 v3 v4 v5 hk h r1 r2 r3 r4 r5
  have lo := zq_RA_lo h hk
  obtain ⟨h0, ⟨t1, t2, t3, t4, t5, t6⟩, h2, h3, ⟨lb, h4, h5⟩, h6, h7⟩ := h
  have hp := h2.2.2.2.2.2.1.1
  obtain ⟨c9, F, e1, q1, q2, q3, q4, q5⟩ := zq_E_feedW t5 t2.1 (by omega) t3 t2.2.2 (by omega) (by omega) v1 v2 v3 v4 v5
  have e2 := zq_E_feedM (M := M) (by omega) (by omega) v1 v2 v3 v4 v5
  refine ⟨0, S.tp_size + 20, c9, zq_tpw S F (S.tp_size + 20), M.m_length + 20, zq_apM (MS.w_m_code M 0) (zq_fb20 v1 v2 v3 v4 v5), 0, _, e1, e2, rfl, Or.inl ⟨rfl, by decide, by rw [t1]⟩, ?_⟩
  obtain ⟨t, x, s, rfl, u1, u2, u3⟩ := q1
  refine ⟨hk, ⟨?_, ⟨by show 0 ≤ S.tp_size + 20; omega, by show S.tp_size + 20 ≤ 10240; omega, q2⟩, u1, fun j j0 j1 => ?_, q3, zq_wrt_byt t6 (zq_fb20_byt _ _ _ _ _)⟩, h2, h3, ⟨lb, h4, h5⟩, ⟨?_, ?_, h6.2.2⟩, ?_⟩
  · show S.tp_size + 20 = M.m_length + (((zq_fb20 v1 v2 v3 v4 v5).length : Nat) : Int)
    rw [zq_fb20_len, t1]; rfl
  · show F j = zq_wrt M.m_tape M.m_length (zq_fb20 v1 v2 v3 v4 v5) j
    have j1' : j < S.tp_size + 20 := j1
    by_cases c1 : j < S.tp_size
    · rw [q4 j c1 j0, t4 j j0 c1, zq_wrt_lo (by omega)]
    · have hx : (zq_fb20 v1 v2 v3 v4 v5)[(j - S.tp_size).toNat]? = some ((zq_fb20 v1 v2 v3 v4 v5)[(j - S.tp_size).toNat]'(by rw [zq_fb20_len]; omega)) := List.getElem?_eq_getElem _
      have a1 := q5 _ _ hx
      have a2 := zq_wrt_hi (f := M.m_tape) (p := M.m_length) hx
      rw [show S.tp_size + (((j - S.tp_size).toNat : Nat) : Int) = j by omega] at a1
      rw [← t1, show S.tp_size + (((j - S.tp_size).toNat : Nat) : Int) = j by omega] at a2
      rw [a1, ← t1, a2]
  · have g0 := h6.1
    unfold zq_potC at g0
    show 1000 + 100 * (512 - ((k + 1 : Nat) : Int)) + 3 * (S.tp_size + 20) ≤ (x : Int) + (zq_gL t + zq_gL c.oc + zq_gL c.mo + zq_sumG (fun j => 2 * zq_gL (c.gc j)) 19)
    omega
  · have g0 := h6.2.1
    unfold zq_potS at g0
    show 2300000 + 5000 * (512 - ((k + 1 : Nat) : Int)) + 170 * (S.tp_size + 20) ≤ (s : Int) + (2 * t + 2 * c.oc + 2 * c.mo + (if c.mo = 16384 then 16384 else 0) + zq_sumG (fun j => zq_gP (c.gc j)) 19)
    omega
  · show 16 * M.m_points + (S.tp_size + 20) ≤ 20 * ((k + 1 : Nat) : Int)
    omega
set_option maxRecDepth 100000 in
theorem zq_p_names : st_names zq_RA := by
  intro k c S M hk h
  have h' := h
  obtain ⟨h0, h1, h2, h3, ⟨lb, h4, h5⟩, h6, h7⟩ := h'
  rcases h5 with ⟨a1, a2⟩ | ⟨⟨a1, a2, a3⟩, ⟨b1, b2, b3⟩, -⟩
  · refine ⟨-1, S, -1, MS.w_m_code M 0, ?_, ?_, rfl, zq_RA_same h hk 0⟩
    · rw [s_WT_names, a1, if_pos (by decide)]
    · rw [s_Mo_names, a2, if_pos (by decide)]
  · refine ⟨S.gr_nameCount, S, M.m_names, MS.w_m_code M 0, ?_, ?_, by rw [b1], zq_RA_same h hk 0⟩
    · rw [s_WT_names, a1, if_neg (by decide)]; rfl
    · rw [s_Mo_names, a2, if_neg (by decide)]
set_option maxRecDepth 100000 in
theorem zq_e_table {c : CW} {S : WS} (h : S.ev_stack 0 < 19) : s_Ev_table c S = some (S.ev_stack 0, S) := by
  rw [s_Ev_table, if_pos (by decide), if_pos h]
set_option maxRecDepth 100000 in
theorem zq_e_hasRow {c : CW} {S : WS} {M : MS} {lb : Nat → zq_LB} (h : zq_RX c S M lb) {a : Int} (ha : iR a) : s_WT_hasRow c S a = some (if S.wt_hasTable = 1 ∧ 0 ≤ a ∧ a < M.m_rows then 1 else 0, S) ∧ s_Mo_isRow M a = some (if S.wt_hasTable = 1 ∧ 0 ≤ a ∧ a < M.m_rows then 1 else 0, M) := by
  have x1 := ha.1; have x2 := ha.2
  rcases h with ⟨a1, a2⟩ | ⟨⟨a1, a2, a3⟩, ⟨b1, b2, b3⟩, ⟨d1, d2, zq_d3⟩, -⟩
  · constructor
    · rw [s_WT_hasRow, a1, if_pos (by decide), if_neg (by omega)]
    · rw [s_Mo_isRow, a2, if_pos (by decide), a1, if_neg (by omega)]
  · rw [s_WT_hasRow, s_Mo_isRow, a1, a2, if_neg (show ¬ w32 1 = 0 by decide), if_neg (show ¬ w32 1 = 0 by decide), zq_w32i (z := a) (by omega) (by omega), zq_mb2_eq (zq_e_table a3), if_pos a3, zq_w32i (z := M.m_rows) (by omega) (by omega)]
    by_cases c1 : a < 0
    · rw [if_pos c1, if_pos c1, if_neg (by omega)]; exact ⟨rfl, rfl⟩
    · rw [if_neg c1, if_neg c1]
      have e : mb2 (s_Gd_lines c S (S.ev_stack 0)) (fun r11 S11 => if w32 r11 ≤ a then some ((0 : Int), S11) else some (1, S11)) = if M.m_rows ≤ a then some (0, S) else some (1, S) := by
        show (if w32 (S.gd_lines (S.ev_stack 0)) ≤ a then _ else _) = _
        rw [d1, zq_w32i (z := M.m_rows) (by omega) (by omega)]
      rw [e]
      by_cases c2 : M.m_rows ≤ a
      · rw [if_pos c2, if_pos c2, if_neg (by omega)]; exact ⟨rfl, rfl⟩
      · rw [if_neg c2, if_neg c2, if_pos (by omega)]; exact ⟨rfl, rfl⟩
set_option maxRecDepth 100000 in
/-- the row and the window are there, or both throw -/
theorem zq_e_tableWith {k : Nat} {c : CW} {S : WS} {M : MS} (hA : zq_RA k c S M) (hk : k < 512) {lb : Nat → zq_LB} (h : zq_RX c S M lb) (hst : S.ev_stack 0 < 19) {a b : Int} (ha : iR a) (hb : iR b) : s_WT_tableWith c S a b = if S.wt_hasTable = 1 ∧ (0 ≤ a ∧ a < M.m_rows) ∧ 0 ≤ b ∧ b < M.m_shownWindows then some ((0, S.ev_stack 0), c, S) else some ((3, 0), zq_thr c, S) := by
  have lo := zq_RA_lo hA hk
  have b1 := hb.1; have b2 := hb.2
  have e28 : q_WT_tableWith_28 c S = some ((3, 0), zq_thr c, S) := by rw [q_WT_tableWith_28, if_pos ⟨by omega, by omega⟩]; rfl
  rw [s_WT_tableWith, zq_mb2_eq (zq_e_table hst), if_pos hst, zq_mb2_eq (zq_e_hasRow h ha).1]
  by_cases c1 : S.wt_hasTable = 1 ∧ 0 ≤ a ∧ a < M.m_rows
  · rw [if_pos c1, if_neg (by decide), zq_w32i (z := b) (by omega) (by omega)]
    rcases h with ⟨a1, a2⟩ | ⟨⟨a1, a2, a3⟩, -, -, ⟨d1, d2, zq_d3⟩, -⟩
    · omega
    · by_cases c2 : b < 0
      · rw [if_pos c2, e28, if_neg (by omega)]
      · rw [if_neg c2]
        show (if b < w32 (S.gd_windows (S.ev_stack 0)) then _ else _) = _
        rw [d1, zq_w32i (z := M.m_shownWindows) (by omega) (by omega)]
        by_cases c3 : b < M.m_shownWindows
        · rw [if_pos c3, if_pos (by omega)]
        · rw [if_neg c3, e28, if_neg (by omega)]
  · rw [if_neg c1, if_pos (by decide), e28, if_neg (by omega)]
set_option maxRecDepth 100000 in
theorem zq_e_placeOf (c : CW) (S : WS) (v : Nat) (a b : Int) : s_Gd_placeOf c S v a b = some (zq_plG S v a b, S) := by
  rw [s_Gd_placeOf]; unfold zq_plG
  by_cases c1 : w32 (S.gd_named v) = 0
  · rw [if_pos c1, if_pos c1]
  · rw [if_neg c1, if_neg c1]
set_option maxRecDepth 100000 in
theorem zq_e_has {c : CW} {S : WS} {v : Nat} {p : Int} (h0 : 0 ≤ p) (h1 : p < c.gd v) (h2 : c.gd v ≤ 16384) : s_Gd_has c S v p = some (if w32 (S.gd_there v p) = 0 then 0 else 1, S) := by
  rw [s_Gd_has, zq_w32i (z := p) (by omega) (by omega), if_neg (by omega), zq_w32i (z := c.gd v) (by omega) (by omega), if_neg (by omega), if_pos ⟨h0, h1⟩]
  by_cases c1 : w32 (S.gd_there v p) = 0
  · rw [if_pos c1, if_pos c1]
  · rw [if_neg c1, if_neg c1]
set_option maxRecDepth 100000 in
theorem zq_e_numAt {c : CW} {S : WS} {v : Nat} {p : Int} (h0 : 0 ≤ p) (h1 : p < c.gd v) (h2 : c.gd v ≤ 16384) (h3 : p < c.gc v) (h4 : c.gc v ≤ 16384) : s_Gd_numberAt c S v p = some (if w32 (S.gd_there v p) = 0 then ll 0 else S.gd_numbers v p, S) := by
  rw [s_Gd_numberAt, zq_mb2_eq (zq_e_has h0 h1 h2)]
  by_cases c1 : w32 (S.gd_there v p) = 0
  · rw [if_pos c1, if_pos (by decide), if_pos c1]
  · rw [if_neg c1, if_neg (by decide), zq_w32i (z := c.gc v) (by omega) (by omega), zq_w32i (z := p) (by omega) (by omega), if_neg (by omega), if_pos ⟨h0, h3⟩, if_neg c1]
set_option maxRecDepth 100000 in
theorem zq_e_mrow {k : Nat} {c : CW} {S : WS} {M : MS} {lb : Nat → zq_LB} (h : zq_RX c S M lb) {a b : Int} (ha : iR a) (hb : iR b) : s_Mo_isThere M a b = (if S.wt_hasTable = 1 ∧ (0 ≤ a ∧ a < M.m_rows) ∧ 0 ≤ b ∧ b < M.m_shownWindows then q_Mo_isThere_26 a b 0 M else q_Mo_isThere_25 a b M) ∧ s_Mo_cell M a b = (if S.wt_hasTable = 1 ∧ (0 ≤ a ∧ a < M.m_rows) ∧ 0 ≤ b ∧ b < M.m_shownWindows then q_Mo_cell_26 a b 0 M else q_Mo_cell_25 a b M) := by
  have b1 := hb.1; have b2 := hb.2
  have e := (zq_e_hasRow h ha).2
  rw [s_Mo_isThere, s_Mo_cell, zq_mb2_eq e, zq_mb2_eq e]
  by_cases c1 : S.wt_hasTable = 1 ∧ 0 ≤ a ∧ a < M.m_rows
  · rw [if_pos c1, if_neg (show ¬ w32 1 = 0 by decide), if_neg (show ¬ w32 1 = 0 by decide), zq_w32i (z := b) (by omega) (by omega)]
    rcases h with ⟨a1, a2⟩ | ⟨-, -, -, ⟨d1, d2, zq_d3⟩, -⟩
    · omega
    · rw [zq_w32i (z := M.m_shownWindows) (by omega) (by omega)]
      by_cases c2 : b < 0
      · rw [if_pos c2, if_pos c2, if_neg (by omega), if_neg (by omega)]; exact ⟨rfl, rfl⟩
      · rw [if_neg c2, if_neg c2]
        by_cases c3 : M.m_shownWindows ≤ b
        · rw [if_pos c3, if_pos c3, if_neg (by omega), if_neg (by omega)]; exact ⟨rfl, rfl⟩
        · rw [if_neg c3, if_neg c3, if_pos (by omega), if_pos (by omega)]; exact ⟨rfl, rfl⟩
  · rw [if_neg c1, if_pos (show w32 0 = 0 by decide), if_pos (show w32 0 = 0 by decide), if_neg (by omega), if_neg (by omega)]; exact ⟨rfl, rfl⟩
set_option maxRecDepth 100000 in
theorem zq_p_isThere : st_isThere zq_RA := by
  intro k c S M a b hk h ha hb
  have h' := h
  obtain ⟨h0, h1, h2, h3, ⟨lb, h4, h5⟩, h6, h7⟩ := h'
  have hst := h3.2.1.1 0 (by decide) (by decide)
  have eW := zq_e_tableWith h hk h5 hst ha hb
  have eM := (zq_e_mrow (k := k) h5 ha hb).1
  by_cases c1 : S.wt_hasTable = 1 ∧ (0 ≤ a ∧ a < M.m_rows) ∧ 0 ≤ b ∧ b < M.m_shownWindows
  · rw [if_pos c1] at eW eM
    rcases h5 with ⟨a1, a2⟩ | ⟨-, -, ⟨d1, d2, zq_d3⟩, ⟨d4, d5, d6⟩, hc, -⟩
    · omega
    · obtain ⟨⟨p1, p2, p3⟩, p4, p5⟩ := hc a b c1.2.1.1 c1.2.1.2 c1.2.2.1 c1.2.2.2
      have hg := h6.2.2.1 (S.ev_stack 0) hst
      refine ⟨0, if w32 (S.gd_there (S.ev_stack 0) (zq_plG S (S.ev_stack 0) a b)) = 0 then 0 else 1, c, S, if w32 (M.m_isShown (64 * a + b)) = 0 then 0 else 1, MS.w_m_code M 0, 0, MS.w_m_code M 0, ?_, ?_, rfl, Or.inl ⟨rfl, by decide, ?_⟩, zq_RA_same h hk 0⟩
      · rw [s_WT_isThere, zq_mb3_eq eW]
        show (if S.ev_stack 0 < 19 then _ else none) = _
        rw [if_pos hst, zq_mb2_eq (zq_e_placeOf c S _ a b), zq_mb2_eq (zq_e_has p1 p2 (by omega)), if_pos (by split <;> simp)]
      · rw [eM, q_Mo_isThere_26, if_pos (by decide), if_pos (by omega)]
        by_cases z : w32 (M.m_isShown (64 * a + b)) = 0
        · rw [if_pos z, if_pos z]
        · rw [if_neg z, if_neg z]
      · by_cases z : w32 (M.m_isShown (64 * a + b)) = 0
        · rw [if_pos z, if_pos (p4.mpr z)]
        · rw [if_neg z, if_neg (fun y => z (p4.mp y))]
  · rw [if_neg c1] at eW eM
    refine ⟨3, 0, zq_thr c, S, 0, MS.w_m_code M 1, 1, MS.w_m_code M 1, ?_, ?_, rfl, Or.inr ⟨rfl, by decide⟩, zq_RA_thr h hk 1⟩
    · rw [s_WT_isThere, zq_mb3_eq eW]; rfl
    · rw [eM, q_Mo_isThere_25, q_Mo_isThere_26, if_neg (by decide)]
set_option maxRecDepth 100000 in
theorem zq_p_cell : st_cell zq_RA := by
  intro k c S M a b hk h ha hb
  have h' := h
  obtain ⟨h0, h1, h2, h3, ⟨lb, h4, h5⟩, h6, h7⟩ := h'
  have hst := h3.2.1.1 0 (by decide) (by decide)
  have eW := zq_e_tableWith h hk h5 hst ha hb
  have eM := (zq_e_mrow (k := k) h5 ha hb).2
  by_cases c1 : S.wt_hasTable = 1 ∧ (0 ≤ a ∧ a < M.m_rows) ∧ 0 ≤ b ∧ b < M.m_shownWindows
  · rw [if_pos c1] at eW eM
    rcases h5 with ⟨a1, a2⟩ | ⟨-, -, ⟨d1, d2, zq_d3⟩, ⟨d4, d5, d6⟩, hc, -⟩
    · omega
    · obtain ⟨⟨p1, p2, p3⟩, p4, p5⟩ := hc a b c1.2.1.1 c1.2.1.2 c1.2.2.1 c1.2.2.2
      have hg := h6.2.2.1 (S.ev_stack 0) hst
      refine ⟨0, if w32 (S.gd_there (S.ev_stack 0) (zq_plG S (S.ev_stack 0) a b)) = 0 then ll 0 else S.gd_numbers (S.ev_stack 0) (zq_plG S (S.ev_stack 0) a b), c, S, if w32 (M.m_isShown (64 * a + b)) = 0 then ll 0 else M.m_shown (64 * a + b), MS.w_m_code M 0, 0, MS.w_m_code M 0, ?_, ?_, rfl, Or.inl ⟨rfl, by decide, ?_⟩, zq_RA_same h hk 0⟩
      · rw [s_WT_cell, zq_mb3_eq eW]
        show (if S.ev_stack 0 < 19 then _ else none) = _
        rw [if_pos hst, zq_mb2_eq (zq_e_placeOf c S _ a b), zq_mb2_eq (zq_e_numAt p1 p2 (by omega) p3 (by omega))]
      · rw [eM, q_Mo_cell_26, if_pos (by decide), if_pos (by omega)]
        by_cases z : w32 (M.m_isShown (64 * a + b)) = 0
        · rw [if_pos z, if_pos z]
        · rw [if_neg z, if_pos (by omega), if_neg z]
      · by_cases z : w32 (M.m_isShown (64 * a + b)) = 0
        · rw [if_pos z, if_pos (p4.mpr z)]
        · rw [if_neg z, if_neg (fun y => z (p4.mp y)), p5 (fun y => z (p4.mp y))]
  · rw [if_neg c1] at eW eM
    refine ⟨3, ll 0, zq_thr c, S, ll 0, MS.w_m_code M 1, 1, MS.w_m_code M 1, ?_, ?_, rfl, Or.inr ⟨rfl, by decide⟩, zq_RA_thr h hk 1⟩
    · rw [s_WT_cell, zq_mb3_eq eW]; rfl
    · rw [eM, q_Mo_cell_25, q_Mo_cell_26, if_neg (by decide)]
set_option maxRecDepth 100000 in
theorem zq_posP_le : ∀ (l : zq_LB) (k : Nat) (x : List Int × List Int), (∀ y ∈ l, y.1.length ≤ 24 ∧ y.2.length ≤ 24) → l[k]? = some x → 0 ≤ zq_posP l k ∧ zq_posP l k ≤ 50 * k ∧ zq_posP l k + x.1.length + 1 + x.2.length ≤ (zq_encP l).length
  | [], k, x, _, h => by simp at h
  | [y], 0, x, hy, h => by simp at h; subst h; have := hy y (by simp); simp [zq_posP, zq_encP]; omega
  | [y], k + 1, x, _, h => by simp at h
  | y :: z :: r, 0, x, hy, h => by
    simp at h; subst h
    have := hy y (by simp)
    simp only [zq_posP, zq_encP, List.length_append, List.length_cons]
    omega
  | y :: z :: r, k + 1, x, hy, h => by
    have hy0 := hy y (by simp)
    have ih := zq_posP_le (z :: r) k x (fun w hw => hy w (List.mem_cons_of_mem _ hw)) (by simpa using h)
    simp only [zq_posP, zq_encP, List.length_append, List.length_cons] at ih ⊢
    omega
set_option maxRecDepth 100000 in
/-- where the letters of a value are -/
theorem zq_encP_val : ∀ (l : zq_LB) (k : Nat) (x : List Int × List Int) (j : Nat) (b : Int), l[k]? = some x → x.2[j]? = some b → (zq_encP l)[(zq_posP l k).toNat + x.1.length + 1 + j]? = some b
  | [], k, x, j, b, h, _ => by simp at h
  | [y], 0, x, j, b, h, hb => by
    simp at h; subst h
    simp only [zq_posP, zq_encP]
    rw [List.getElem?_append_right (by omega), show ((0 : Int).toNat + y.1.length + 1 + j) - y.1.length = j + 1 by omega]
    simpa using hb
  | [y], k + 1, x, j, b, h, _ => by simp at h
  | y :: z :: r, 0, x, j, b, h, hb => by
    simp at h; subst h
    have hj := (List.getElem?_eq_some_iff.mp hb).1
    simp only [zq_posP, zq_encP]
    rw [List.getElem?_append_right (by omega), show ((0 : Int).toNat + y.1.length + 1 + j) - y.1.length = j + 1 by omega, List.getElem?_cons_succ, List.getElem?_append_left hj]
    exact hb
  | y :: z :: r, k + 1, x, j, b, h, hb => by
    have ih := zq_encP_val (z :: r) k x j b (by simpa using h) hb
    have h0 : 0 ≤ zq_posP (z :: r) k := by
      have : ∀ (l : zq_LB) (k : Nat), 0 ≤ zq_posP l k := by
        intro l
        induction l with
        | nil => intro k; simp [zq_posP]
        | cons w ws ihw => intro k; cases k with
          | zero => simp [zq_posP]
          | succ k => have := ihw k; simp only [zq_posP]; omega
      exact this _ _
    rw [zq_encP, zq_posP, List.getElem?_append_right (by omega)]
    have e : ((y.1.length : Int) + 1 + y.2.length + 1 + zq_posP (z :: r) k).toNat + x.1.length + 1 + j - y.1.length = (y.2.length + 1 + ((zq_posP (z :: r) k).toNat + x.1.length + 1 + j)) + 1 := by omega
    rw [e, List.getElem?_cons_succ, List.getElem?_append_right (by omega), show y.2.length + 1 + ((zq_posP (z :: r) k).toNat + x.1.length + 1 + j) - y.2.length = ((zq_posP (z :: r) k).toNat + x.1.length + 1 + j) + 1 by omega, List.getElem?_cons_succ]
    exact ih
set_option maxRecDepth 100000 in
theorem zq_e_valueLen {c : CW} {S : WS} {M : MS} {lb : Nat → zq_LB} (h : zq_RLb c S M lb) {i k : Nat} {x : List Int × List Int} (hi : i < c.N) (hx : (lb i)[k]? = some x) : s_Se_valueLength c S i (k : Int) = some ((x.2.length : Int), S) := by
  obtain ⟨q1, ⟨q2, q3, q4, q5⟩, -⟩ := h.2.2 i hi
  have hk := (List.getElem?_eq_some_iff.mp hx).1
  have h6 := q1.1
  obtain ⟨z1, z2, z3⟩ := q5 k x hx
  rw [s_Se_valueLength, zq_w32i (z := (k : Int)) (by omega) (by omega), if_neg (by omega), q4, zq_w32i (z := ((lb i).length : Int)) (by omega) (by omega), if_neg (by omega), if_pos (by omega), if_pos (by omega), if_pos (by omega), z2, z3]
  congr 2; omega
set_option maxRecDepth 100000 in
theorem zq_e_valueLetter {c : CW} {S : WS} {M : MS} {lb : Nat → zq_LB} (h : zq_RLb c S M lb) {i k : Nat} {x : List Int × List Int} (hi : i < c.N) (hx : (lb i)[k]? = some x) {b : Int} (hb : iR b) : s_Se_valueLetter c S i (k : Int) b = some (if h : 0 ≤ b ∧ b < x.2.length then x.2[b.toNat]'(by omega) else -1, S) := by
  have b1 := hb.1; have b2 := hb.2
  obtain ⟨q1, ⟨q2, q3, q4, q5⟩, -⟩ := h.2.2 i hi
  have hk := (List.getElem?_eq_some_iff.mp hx).1
  have h6 := q1.1
  have hL := zq_okB_len q1
  obtain ⟨z1, z2, z3⟩ := q5 k x hx
  have hx2 := q1.2.1 x (List.mem_of_getElem? hx)
  have hp := zq_posP_le (lb i) k x (fun y hy => ⟨(q1.2.1 y hy).1.2, (q1.2.1 y hy).2.1.2⟩) hx
  rw [s_Se_valueLetter, zq_w32i (z := (k : Int)) (by omega) (by omega), if_neg (by omega), q4, zq_w32i (z := ((lb i).length : Int)) (by omega) (by omega), if_neg (by omega), zq_w32i (z := b) (by omega) (by omega), zq_mb2_eq (zq_e_valueLen h hi hx)]
  by_cases c1 : b < 0
  · rw [if_pos c1, dif_neg (by omega)]
  · rw [if_neg c1, zq_w32i (z := (x.2.length : Int)) (by omega) (by omega)]
    by_cases c2 : b < (x.2.length : Int)
    · rw [if_pos c2, if_pos (by omega), dif_pos (by omega), z2]
      have hb2 : x.2[b.toNat]? = some (x.2[b.toNat]'(by omega)) := List.getElem?_eq_getElem _
      have hv := q2 _ _ (zq_encP_val (lb i) k x b.toNat _ hx hb2)
      have e : s_Se_letterAt c S i (zq_posP (lb i) k + x.1.length + 1 + b) = some (x.2[b.toNat]'(by omega), S) := by
        rw [s_Se_letterAt, zq_w32i (z := zq_posP (lb i) k + x.1.length + 1 + b) (by omega) (by omega), if_neg (by omega), q3, zq_w32i (z := ((zq_encP (lb i)).length : Int)) (by omega) (by omega), if_neg (by omega), if_pos (by omega), ← hv]
        congr 3; omega
      rw [zq_mb2_eq e]
    · rw [if_neg c2, dif_neg (by omega)]
set_option maxRecDepth 100000 in
theorem zq_p_text : st_text zq_RA := by
  intro k c S M a b d hk h ha hb hd
  have lo := zq_RA_lo h hk
  have a1 := ha.1; have a2 := ha.2; have b1 := hb.1; have b2 := hb.2; have d1 := hd.1; have d2 := hd.2
  have h' := h
  obtain ⟨h0, h1, h2, h3, ⟨lb, h4, h5⟩, h6, h7⟩ := h'
  have eR := zq_e_hasRow h5 ha
  by_cases c1 : S.wt_hasTable = 1 ∧ 0 ≤ a ∧ a < M.m_rows
  · rw [if_pos c1] at eR
    have eW : s_WT_text c S a b d = mb2 (s_Gr_letterAt c S a b d) (fun r7 S7 => some ((0, r7), c, S7)) := by
      rw [s_WT_text, zq_mb2_eq eR.1, if_neg (by decide)]
    have eM : s_Mo_text M a b d = q_Mo_text_14 a b d 0 M := by
      rw [s_Mo_text, zq_mb2_eq eR.2, if_neg (by decide)]
    have key : ∃ r, s_Gr_letterAt c S a b d = some (r, S) ∧ q_Mo_text_14 a b d 0 M = some (r, MS.w_m_code M 0) := by
      rcases h5 with ⟨x1, x2⟩ | ⟨-, ⟨n1, n2, n3⟩, ⟨r1, r2, r3⟩, -, -, hg, ht⟩
      · omega
      · rw [q_Mo_text_14, if_pos (show w32 0 ≤ 0 by decide), zq_w32i (z := b) (by omega) (by omega), zq_w32i (z := M.m_names) (by omega) (by omega), zq_w32i (z := d) (by omega) (by omega), s_Gr_letterAt, zq_w32i (z := a) (by omega) (by omega), if_neg (show ¬ a < 0 by omega), zq_w32i (z := b) (by omega) (by omega), n1, zq_w32i (z := M.m_names) (by omega) (by omega)]
        by_cases c2 : b < 0
        · refine ⟨-1, ?_, by rw [if_pos c2]; rfl⟩
          by_cases z : w32 S.gr_size ≤ a
          · rw [if_pos z]
          · rw [if_neg z, if_pos c2]
        · rw [if_neg c2, if_neg c2]
          by_cases c3 : M.m_names ≤ b
          · refine ⟨-1, ?_, by rw [if_pos c3]; rfl⟩
            by_cases z : w32 S.gr_size ≤ a
            · rw [if_pos z]
            · rw [if_neg z, if_neg (by omega)]
          · rw [if_neg c3]
            obtain ⟨g1, g2⟩ := hg (by omega)
            obtain ⟨i, kz, v, i1, i2, i3, i4', i5', i6'⟩ := ht a b c1.2.1 c1.2.2 (by omega) (by omega)
            have hN := h4.1.1
            rcases i4' with ⟨j1, j2⟩ | ⟨kk, x, j1, i4, j2⟩
            · subst j2
              have eL : s_Gr_labelOf c S (i : Int) b = some (-1, S) := by
                rw [s_Gr_labelOf, zq_w32i (z := (i : Int)) (by omega) (by omega), if_neg (by omega), if_neg (by omega), zq_w32i (z := b) (by omega) (by omega), if_neg (by omega), n1, zq_w32i (z := M.m_names) (by omega) (by omega), if_neg (by omega), if_pos (by omega), i3, j1]
              have eV : s_Se_valueLetter c S i (-1) d = some (-1, S) := by rw [s_Se_valueLetter, if_pos (by decide)]
              rw [zq_w32i (z := S.gr_size) (by omega) (by omega), if_neg (by omega), if_pos (show b < M.m_names by omega), if_pos (by omega), if_pos (by rw [i1]; omega), if_pos (by omega), i1, zq_mb2_eq eL, Int.toNat_natCast, zq_mb2_eq eV]
              refine ⟨_, rfl, ?_⟩
              by_cases c4 : d < 0
              · rw [if_pos c4]; rfl
              · rw [if_neg c4, if_pos (by omega), i5', if_neg (by show ¬ d < w32 0; rw [show w32 0 = 0 by decide]; exact c4)]; rfl
            · subst j2
              have i5 := i5'; have i6 := i6'
              rw [j1] at i3
              have hx2 := (h4.2.2 i i2).1.2.1 x (List.mem_of_getElem? i4)
              have eL : s_Gr_labelOf c S (i : Int) b = some ((kk : Int), S) := by
                rw [s_Gr_labelOf, zq_w32i (z := (i : Int)) (by omega) (by omega), if_neg (by omega), if_neg (by omega), zq_w32i (z := b) (by omega) (by omega), if_neg (by omega), n1, zq_w32i (z := M.m_names) (by omega) (by omega), if_neg (by omega), if_pos (by omega), i3]
              rw [zq_w32i (z := S.gr_size) (by omega) (by omega), if_neg (by omega), if_pos (show b < M.m_names by omega), if_pos (by omega), if_pos (by rw [i1]; omega), if_pos (by omega), i1, zq_mb2_eq eL, Int.toNat_natCast, zq_mb2_eq (zq_e_valueLetter h4 i2 i4 hd)]
              refine ⟨_, rfl, ?_⟩
              by_cases c4 : d < 0
              · rw [if_pos c4, dif_neg (by omega)]; rfl
              · rw [if_neg c4, if_pos (by omega), i5, zq_w32i (z := (x.2.length : Int)) (by omega) (by omega)]
                by_cases c5 : d < (x.2.length : Int)
                · rw [if_pos c5, if_pos (by omega), dif_pos (by omega)]
                  have hb2 : x.2[d.toNat]? = some (x.2[d.toNat]'(by omega)) := List.getElem?_eq_getElem _
                  have := i6 _ _ hb2
                  rw [show (6 * a + b) * 24 + ((d.toNat : Nat) : Int) = (6 * a + b) * 24 + d by omega] at this
                  rw [this]
                · rw [if_neg c5, dif_neg (by omega)]; rfl
    obtain ⟨r, k1, k2⟩ := key
    exact ⟨0, r, c, S, r, MS.w_m_code M 0, 0, MS.w_m_code M 0, by rw [eW, zq_mb2_eq k1], by rw [eM, k2], rfl, Or.inl ⟨rfl, by decide, rfl⟩, zq_RA_same h hk 0⟩
  · rw [if_neg c1] at eR
    refine ⟨3, 0, zq_thr c, S, 0, MS.w_m_code M 1, 1, MS.w_m_code M 1, ?_, ?_, rfl, Or.inr ⟨rfl, by decide⟩, zq_RA_thr h hk 1⟩
    · rw [s_WT_text, zq_mb2_eq eR.1, if_pos (by decide), if_pos ⟨by omega, by omega⟩]; rfl
    · rw [s_Mo_text, zq_mb2_eq eR.2, if_pos (by decide), q_Mo_text_14, if_neg (by decide)]
set_option maxRecDepth 100000 in
def zq_rowI (c : CW) (S : WS) (i : Nat) (P : List zq_P3) (l : Int64) : Prop := zq_ptI c S i ∧ c.pc i = c.pv i ∧ (∀ j, 0 ≤ j → j < S.pt_size i → 0 ≤ (S.pt_times i j).toInt ∧ (S.pt_times i j).toInt ≤ 1099511627775 ∧ (S.pt_times i j).toInt ≤ (S.pt_lastTime i).toInt) ∧ zq_cpts S i = P ∧ S.pt_lastTime i = l ∧ (S.pt_lastTime i).toInt ≤ 1099511627775
set_option maxRecDepth 100000 in
theorem zq_row_same {c c9 : CW} {S S9 : WS} {i : Nat} {P : List zq_P3} {l : Int64} (h : zq_rowI c S i P l) (e1 : S9.pt_size i = S.pt_size i) (e2 : S9.pt_packed i = S.pt_packed i) (e3 : S9.pt_times i = S.pt_times i) (e4 : S9.pt_values i = S.pt_values i) (e5 : S9.pt_lastTime i = S.pt_lastTime i) (e6 : c9.pc i = c.pc i) (e7 : c9.pv i = c.pv i) : zq_rowI c9 S9 i P l := by
  obtain ⟨⟨p1, p2, p3⟩, h2, h3, h4, h5, h6⟩ := h
  refine ⟨⟨?_, ?_, ?_⟩, ?_, ?_, ?_, ?_, ?_⟩
  · rw [e1, e2, e6, e7]; exact p1
  · rw [e1, e3]; exact p2
  · rw [e6, e7]; exact p3
  · rw [e6, e7]; exact h2
  · rw [e1, e3, e5]; exact h3
  · rw [← h4]; unfold zq_cpts zq_cp3; rw [e1, e2, e3, e4]
  · rw [e5]; exact h5
  · rw [e5]; exact h6
set_option maxRecDepth 100000 in
theorem zq_ptw_other {S : WS} {i i' : Nat} {f g : Int → Int64} {n : Int} {l : Int64} (h : i' ≠ i) : (zq_ptw S i f g n l).pt_size i' = S.pt_size i' ∧ (zq_ptw S i f g n l).pt_packed i' = S.pt_packed i' ∧ (zq_ptw S i f g n l).pt_times i' = S.pt_times i' ∧ (zq_ptw S i f g n l).pt_values i' = S.pt_values i' ∧ (zq_ptw S i f g n l).pt_lastTime i' = S.pt_lastTime i' :=
  ⟨nU_ne _ _ _ _ h, rfl, nU_ne _ _ _ _ h, nU_ne _ _ _ _ h, nU_ne _ _ _ _ h⟩
set_option maxRecDepth 100000 in
theorem zq_ptw_self {S : WS} {i : Nat} {f g : Int → Int64} {n : Int} {l : Int64} : (zq_ptw S i f g n l).pt_size i = n ∧ (zq_ptw S i f g n l).pt_packed i = S.pt_packed i ∧ (zq_ptw S i f g n l).pt_times i = f ∧ (zq_ptw S i f g n l).pt_values i = g ∧ (zq_ptw S i f g n l).pt_lastTime i = l :=
  ⟨nU_at _ _ _, rfl, nU_at _ _ _, nU_at _ _ _, nU_at _ _ _⟩
set_option maxRecDepth 100000 in
/-- a point comes -/
theorem zq_row_add {c : CW} {S : WS} {i : Nat} {P : List zq_P3} {l : Int64} (h : zq_rowI c S i P l) (hsz : S.pt_size i ≤ 640) (hb : 2 ≤ c.bc) (hs : 2600 ≤ c.bs) {t v : Int64} (t0 : 0 ≤ t.toInt) (t1 : t.toInt ≤ 1099511627775) (t2 : l.toInt < t.toInt) :
    ∃ (c9 : CW) (f g : Int → Int64), s_Pt_add c S i t v = some ((), c9, zq_ptw S i f g (S.pt_size i + 1) t) ∧ zq_pcS c c9 i ∧ zq_rowI c9 (zq_ptw S i f g (S.pt_size i + 1) t) i (P ++ [(t, v, 0)]) t := by
  obtain ⟨hp, h2, h3, h4, h5, h6⟩ := h
  obtain ⟨c9, f, g, e1, q1, q2, q3, q4, q5, q6⟩ := zq_E_ptadd hp h2 hsz hb hs t v
  obtain ⟨⟨p1, p2, p3, p4, p5⟩, p6, p7, p8⟩ := hp
  obtain ⟨s1, s2, s3, s4, s5⟩ := zq_ptw_self (S := S) (i := i) (f := f) (g := g) (n := S.pt_size i + 1) (l := t)
  have hpc : c9.pc i ≤ 100000 ∧ c9.pv i ≤ 100000 := by
    obtain ⟨p, b, s, rfl, u1, -, -⟩ := q1
    constructor
    · show nU c.pc i p i ≤ 100000; rw [nU_at]; omega
    · show nU c.pv i p i ≤ 100000; rw [nU_at]; omega
  refine ⟨c9, f, g, e1, q1, ⟨⟨?_, ?_, hpc⟩, q3, ?_, ?_, s5, by rw [s5]; exact t1⟩⟩
  · rw [s1, s2]; rw [q3] at q2 ⊢; omega
  · rw [s1, s3]
    intro a b a0 ab b1
    by_cases z : b = S.pt_size i
    · subst z
      rw [q5, (q4 a a0 ab).1]
      have := (h3 a a0 ab).2.2
      rw [h5] at this
      omega
    · rw [(q4 a a0 (by omega)).1, (q4 b (by omega) (by omega)).1]
      exact p6 a b a0 ab (by omega)
  · rw [s1, s3, s5]
    intro j j0 j1
    by_cases z : j = S.pt_size i
    · subst z; rw [q5]; exact ⟨t0, t1, Int.le_refl _⟩
    · rw [(q4 j j0 (by omega)).1]
      have := h3 j j0 (by omega)
      rw [h5] at this
      exact ⟨this.1, this.2.1, by omega⟩
  · rw [← h4]
    unfold zq_cpts
    rw [s1, show (S.pt_size i + 1).toNat = (S.pt_size i).toNat + 1 by omega, zq_gsl_snoc]
    congr 1
    · refine zq_gsl_congr _ _ (fun j j0 j1 => ?_)
      unfold zq_cp3
      rw [s2, s3, s4, (q4 j j0 (by omega)).1, (q4 j j0 (by omega)).2]
    · unfold zq_cp3
      rw [s2, s3, s4, show (0 : Int) + ((S.pt_size i).toNat : Int) = S.pt_size i by omega, q5, q6, if_neg (by omega)]
set_option maxRecDepth 100000 in
theorem zq_e_putPoint {c : CW} {S : WS} {i : Nat} {P : List zq_P3} {l : Int64} (hi : i < c.N) (h : zq_rowI c S i P l) (hsz : S.pt_size i ≤ 640) (hb : 2 ≤ c.bc) (hs : 2600 ≤ c.bs) {t v : Int64} (t0 : 0 ≤ t.toInt) (t1 : t.toInt ≤ 1099511627775) (t2 : l.toInt < t.toInt) :
    ∃ (c9 : CW) (f g : Int → Int64), s_St_putPoint c S i t v = some ((), c9, WS.w_st_headSize (zq_ptw S i f g (S.pt_size i + 1) t) (S.st_headSize + 1)) ∧ zq_pcS c c9 i ∧ zq_rowI c9 (zq_ptw S i f g (S.pt_size i + 1) t) i (P ++ [(t, v, 0)]) t := by
  obtain ⟨c9, f, g, e1, q1, q2⟩ := zq_row_add h hsz hb hs t0 t1 t2 (v := v)
  have hN : c9.N = c.N := by obtain ⟨p, b, s, rfl, -⟩ := q1; rfl
  exact ⟨c9, f, g, by rw [s_St_putPoint, zq_mb3_eq e1, if_pos (by rw [hN]; exact hi)]; rfl, q1, q2⟩
set_option maxRecDepth 100000 in
/-- the reference: a point comes -/
def zq_mcm (M : MS) (a : Int) (t v : Int64) : MS := MS.w_m_head (MS.w_m_points (MS.w_m_places (MS.w_m_pointValues (MS.w_m_pointTimes (MS.w_m_pointSeries (MS.w_m_lasts M (aU M.m_lasts a t)) (aU M.m_pointSeries M.m_points a)) (aU M.m_pointTimes M.m_points t)) (aU M.m_pointValues M.m_points v)) (aU M.m_places M.m_points 0)) (M.m_points + 1)) (M.m_head + 1)
set_option maxRecDepth 100000 in
theorem zq_e_come {M : MS} {a : Int} (ha : 0 ≤ a ∧ a < 256) (hp : 0 ≤ M.m_points ∧ M.m_points < 8192) (t v : Int64) : s_Mo_come M a t v = some ((), zq_mcm M a t v) := by
  rw [s_Mo_come, if_pos ha, if_pos hp, if_pos hp, if_pos hp, if_pos hp]; rfl
set_option maxRecDepth 100000 in
theorem zq_mcm_pts {M : MS} (hp : 0 ≤ M.m_points) (a : Int) (t v : Int64) : zq_mpts (zq_mcm M a t v) = zq_mpts M ++ [(a, t, v, 0)] := by
  unfold zq_mpts
  rw [show (zq_mcm M a t v).m_points.toNat = M.m_points.toNat + 1 by show (M.m_points + 1).toNat = _; omega, zq_gsl_snoc]
  congr 1
  · refine zq_gsl_congr _ _ (fun j j0 j1 => ?_)
    show (aU M.m_pointSeries M.m_points a j, aU M.m_pointTimes M.m_points t j, aU M.m_pointValues M.m_points v j, aU M.m_places M.m_points 0 j) = zq_pg4 M j
    rw [zq_aU_ne _ _ _ _ (by omega), zq_aU_ne _ _ _ _ (by omega), zq_aU_ne _ _ _ _ (by omega), zq_aU_ne _ _ _ _ (by omega)]
    rfl
  · show [(aU M.m_pointSeries M.m_points a (0 + (M.m_points.toNat : Int)), aU M.m_pointTimes M.m_points t (0 + (M.m_points.toNat : Int)), aU M.m_pointValues M.m_points v (0 + (M.m_points.toNat : Int)), aU M.m_places M.m_points 0 (0 + (M.m_points.toNat : Int)))] = _
    rw [show (0 : Int) + (M.m_points.toNat : Int) = M.m_points by omega, zq_aU_at, zq_aU_at, zq_aU_at, zq_aU_at]
set_option maxRecDepth 100000 in
theorem zq_serP_app (s : Int) (l l' : List zq_P4) : zq_serP s (l ++ l') = zq_serP s l ++ zq_serP s l' := by
  unfold zq_serP; rw [List.filter_append, List.map_append]
set_option maxRecDepth 100000 in
theorem zq_size_le {c : CW} {S : WS} {i : Nat} {M : MS} {l : Int64} (h : zq_rowI c S i (zq_serP (i : Int) (zq_mpts M)) l) (hp : 0 ≤ M.m_points) : S.pt_size i ≤ M.m_points := by
  have e := congrArg List.length h.2.2.2.1
  unfold zq_cpts at e
  rw [zq_gsl_len] at e
  have : (zq_serP (i : Int) (zq_mpts M)).length ≤ (zq_mpts M).length := by unfold zq_serP; rw [List.length_map]; exact List.length_filter_le _ _
  unfold zq_mpts at this
  rw [zq_gsl_len] at this
  have := h.1.1
  unfold zq_mpts at e
  omega
set_option maxRecDepth 100000 in
/-- one point on both sides -/
theorem zq_RSt_add {c c9 : CW} {S : WS} {M : MS} (h : zq_RSt c S M) {i : Nat} (hi : i < c.N) {f g : Int → Int64} {n : Int} {t v : Int64} (hcN : c.N ≤ 256) (hq : zq_pcS c c9 i) (hr : zq_rowI c9 (zq_ptw S i f g n t) i (zq_serP (i : Int) (zq_mpts M) ++ [(t, v, 0)]) t) (h640 : M.m_points + 1 ≤ 640) : zq_RSt c9 (WS.w_st_headSize (zq_ptw S i f g n t) (S.st_headSize + 1)) (zq_mcm M (i : Int) t v) := by
  obtain ⟨h1, h2, h3, h4, h5, h6, h7, h8⟩ := h
  have hpt := zq_mcm_pts h6.1 (i : Int) t v
  have hN : c9.N = c.N := by obtain ⟨p, b, s, rfl, -⟩ := hq; rfl
  refine ⟨fun i' hi' => ?_, h2, ⟨by show S.st_headSize + 1 = M.m_head + 1; rw [h3.1], ?_⟩, h4, h5, ⟨by show 0 ≤ M.m_points + 1; have := h6.1; omega, by show M.m_points + 1 ≤ 8192; omega, fun p p0 p1 => ?_⟩, fun x hx => ?_, by show M.m_points + 1 ≤ 640; exact h640⟩
  · rw [hN] at hi'
    rw [hpt, zq_serP_app]
    by_cases z : i' = i
    · subst z
      rw [show zq_serP (i' : Int) [((i' : Int), t, v, (0 : Int))] = [(t, v, 0)] by simp [zq_serP, zq_d3]]
      rw [show (zq_mcm M (i' : Int) t v).m_lasts (i' : Int) = t from zq_aU_at _ _ _]
      exact hr
    · rw [show zq_serP (i' : Int) [((i : Int), t, v, (0 : Int))] = [] by
        have : ¬ ((i : Int) == (i' : Int)) = true := by simp; omega
        simp [zq_serP]; omega]
      rw [List.append_nil, show (zq_mcm M (i : Int) t v).m_lasts (i' : Int) = M.m_lasts (i' : Int) from zq_aU_ne _ _ _ _ (by omega)]
      obtain ⟨o1, o2, o3, o4, o5⟩ := zq_ptw_other (S := S) (f := f) (g := g) (n := n) (l := t) z
      have e6 : c9.pc i' = c.pc i' ∧ c9.pv i' = c.pv i' := by
        obtain ⟨p, b, s, rfl, -⟩ := hq
        exact ⟨nU_ne _ _ _ _ z, nU_ne _ _ _ _ z⟩
      exact zq_row_same (h1 i' hi') o1 o2 o3 o4 o5 e6.1 e6.2
  · rw [hpt, List.countP_append]
    show M.m_head + 1 = _
    rw [h3.2]
    simp
  · have p1' : p < M.m_points + 1 := p1
    show iR (aU M.m_pointSeries M.m_points (i : Int) p) ∧ 0 ≤ aU M.m_places M.m_points 0 p ∧ aU M.m_places M.m_points 0 p ≤ 1
    by_cases z : p = M.m_points
    · subst z; rw [zq_aU_at, zq_aU_at]; exact ⟨⟨by omega, by omega⟩, by omega, by omega⟩
    · rw [zq_aU_ne _ _ _ _ z, zq_aU_ne _ _ _ _ z]; exact h6.2.2 p p0 (by omega)
  · rw [hpt] at hx
    rw [hN]
    rcases List.mem_append.mp hx with hx | hx
    · exact h7 x hx
    · simp only [List.mem_cons, List.not_mem_nil, or_false] at hx
      subst hx
      exact ⟨by show (0 : Int) ≤ (i : Int); omega, by show (i : Int) < c.N; omega, Or.inl rfl⟩
set_option maxRecDepth 100000 in
/-- may a point come? -/
abbrev zq_myC (l hz t : Int64) : Prop := 0 ≤ t.toInt ∧ t.toInt ≤ 1099511627775 ∧ l.toInt < t.toInt ∧ hz.toInt ≤ t.toInt
set_option maxRecDepth 100000 in
theorem zq_e_mayCome (c : CW) (S : WS) (i : Nat) (t : Int64) : s_St_mayCome c S i t = some (if zq_myC (S.pt_lastTime i) S.st_horizon t then 1 else 0, S) := by
  have eT : s_St_isTime c S t = some (if 0 ≤ t.toInt ∧ t.toInt ≤ 1099511627775 then 1 else 0, S) := by
    rw [s_St_isTime]
    by_cases c1 : t.toInt < 0
    · rw [if_pos c1, if_neg (by omega)]
    · rw [if_neg c1]
      by_cases c2 : 1099511627775 < t.toInt
      · rw [if_pos c2, if_neg (by omega)]
      · rw [if_neg c2, if_pos (by omega)]
  rw [s_St_mayCome, zq_mb2_eq eT]
  by_cases hm : zq_myC (S.pt_lastTime i) S.st_horizon t
  · rw [if_pos hm, if_pos (show 0 ≤ t.toInt ∧ t.toInt ≤ 1099511627775 from ⟨hm.1, hm.2.1⟩), if_neg (by decide)]
    show (if t.toInt ≤ (S.pt_lastTime i).toInt then _ else if t.toInt < S.st_horizon.toInt then _ else _) = _
    rw [if_neg (by have := hm.2.2.1; omega), if_neg (by have := hm.2.2.2; omega)]
  · rw [if_neg hm]
    by_cases c1 : 0 ≤ t.toInt ∧ t.toInt ≤ 1099511627775
    · rw [if_pos c1, if_neg (by decide)]
      show (if t.toInt ≤ (S.pt_lastTime i).toInt then _ else if t.toInt < S.st_horizon.toInt then _ else _) = _
      by_cases c2 : t.toInt ≤ (S.pt_lastTime i).toInt
      · rw [if_pos c2]
      · rw [if_neg c2]
        by_cases c3 : t.toInt < S.st_horizon.toInt
        · rw [if_pos c3]
        · exact absurd ⟨c1.1, c1.2, by omega, by omega⟩ hm
    · rw [if_neg c1, if_pos (by decide)]
set_option maxRecDepth 100000 in
theorem zq_e_why {M : MS} {a : Int} (ha : 0 ≤ a ∧ a < 256) (hh : 0 ≤ M.m_head ∧ M.m_head ≤ 640) (t : Int64) : s_Mo_why M a t = some (if zq_myC (M.m_lasts a) M.m_horizon t then 0 else 2, M) := by
  have e34 : q_Mo_why_34 M = some (2, M) := rfl
  rw [s_Mo_why, e34]
  by_cases hm : zq_myC (M.m_lasts a) M.m_horizon t
  · obtain ⟨m1, m2, m3, m4⟩ := hm
    rw [if_pos (show zq_myC (M.m_lasts a) M.m_horizon t from ⟨m1, m2, m3, m4⟩), if_neg (show ¬ t.toInt < 0 by omega), if_neg (show ¬ 1099511627775 < t.toInt by omega), if_pos ha, if_neg (show ¬ t.toInt ≤ (M.m_lasts a).toInt by omega), if_pos m4, zq_w32i (z := M.m_head) (by omega) (by omega), if_neg (by omega)]
  · rw [if_neg hm]
    by_cases c1 : t.toInt < 0
    · rw [if_pos c1]
    · rw [if_neg c1]
      by_cases c2 : 1099511627775 < t.toInt
      · rw [if_pos c2]
      · rw [if_neg c2, if_pos ha]
        by_cases c3 : t.toInt ≤ (M.m_lasts a).toInt
        · rw [if_pos c3]
        · rw [if_neg c3]
          by_cases c4 : M.m_horizon.toInt ≤ t.toInt
          · exact absurd ⟨by omega, by omega, by omega, c4⟩ hm
          · rw [if_neg c4]
set_option maxRecDepth 100000 in
theorem zq_head_le {c : CW} {S : WS} {M : MS} (h : zq_RSt c S M) : 0 ≤ M.m_head ∧ M.m_head ≤ 640 := by
  obtain ⟨h1, h2, h3, h4, h5, h6, h7, h8⟩ := h
  have e := List.countP_le_length (p := fun x : zq_P4 => x.2.2.2 == 0) (l := zq_mpts M)
  have e2 : (zq_mpts M).length = M.m_points.toNat := by unfold zq_mpts; rw [zq_gsl_len]
  rw [h3.2]
  omega
set_option maxRecDepth 100000 in
theorem zq_e_headIsFull {c : CW} {S : WS} (h : 0 ≤ S.st_headSize ∧ S.st_headSize ≤ 640) : s_St_headIsFull c S = some (0, S) := by
  rw [s_St_headIsFull, zq_w32i (by omega) (by omega), if_pos (by omega)]
set_option maxRecDepth 100000 in
theorem zq_gdB_pc {k : Nat} {c c9 : CW} {S S9 : WS} {i : Nat} (h : zq_gdB k c S) (hq : zq_pcS c c9 i) (hS : S9.tp_size ≤ S.tp_size) : zq_gdB (k + 1) c9 S9 := by
  obtain ⟨p, b, s, rfl, u1, u2, u3⟩ := hq
  obtain ⟨h1, h2, h3, h4, h5⟩ := h
  refine ⟨?_, ?_, h3, h4, h5⟩
  · show 1000 + 100 * (512 - ((k + 1 : Nat) : Int)) + 3 * S9.tp_size ≤ (b : Int) + zq_potC c
    omega
  · show 2300000 + 5000 * (512 - ((k + 1 : Nat) : Int)) + 170 * S9.tp_size ≤ (s : Int) + zq_potS c
    omega
set_option maxRecDepth 100000 in
theorem zq_pc_RLb {c c9 : CW} {S : WS} {M : MS} {lb : Nat → zq_LB} {i : Nat} {f g : Int → Int64} {n hd : Int} {t v : Int64} (hq : zq_pcS c c9 i) (h : zq_RLb c S M lb) : zq_RLb c9 (WS.w_st_headSize (zq_ptw S i f g n t) hd) (zq_mcm M (i : Int) t v) lb := by
  obtain ⟨p, b, s, rfl, -⟩ := hq; exact h
set_option maxRecDepth 100000 in
theorem zq_pc_RX {c c9 : CW} {S : WS} {M : MS} {lb : Nat → zq_LB} {i : Nat} {f g : Int → Int64} {n hd : Int} {t v : Int64} (hq : zq_pcS c c9 i) (h : zq_RX c S M lb) : zq_RX c9 (WS.w_st_headSize (zq_ptw S i f g n t) hd) (zq_mcm M (i : Int) t v) lb := by
  obtain ⟨p, b, s, rfl, -⟩ := hq; exact h
set_option maxRecDepth 100000 in
theorem zq_pc_RT {c c9 : CW} {S : WS} {M : MS} {i : Nat} {f g : Int → Int64} {n hd : Int} {t v : Int64} (hq : zq_pcS c c9 i) (h : zq_RT c S M) : zq_RT c9 (WS.w_st_headSize (zq_ptw S i f g n t) hd) (zq_mcm M (i : Int) t v) := by
  obtain ⟨p, b, s, rfl, -⟩ := hq; exact h
set_option maxRecDepth 100000 in
theorem zq_RA_code {k : Nat} {c : CW} {S : WS} {M : MS} (h : zq_RA k c S M) (z : Int) : zq_RA k c S (MS.w_m_code M z) := h
set_option maxRecDepth 100000 in
theorem zq_p_append : st_append zq_RA := by
  intro k c S M a t v hk h ha
  have lo := zq_RA_lo h hk
  by_cases c1 : 0 ≤ a ∧ a < (c.N : Int)
  · have h' := h
    obtain ⟨h0, h1, h2, h3, ⟨lb, h4, h5⟩, h6, h7⟩ := h'
    have hN := h4.1.1
    have hh := zq_head_le h2
    have hlt : a.toNat < c.N := by omega
    have ea : ((a.toNat : Nat) : Int) = a := by omega
    have hrow : zq_rowI c S a.toNat (zq_serP ((a.toNat : Nat) : Int) (zq_mpts M)) (M.m_lasts ((a.toNat : Nat) : Int)) := h2.1 a.toNat hlt
    have el : S.pt_lastTime a.toNat = M.m_lasts a := by rw [hrow.2.2.2.2.1, ea]
    have eh : S.st_horizon = M.m_horizon := h2.2.1.1
    have eW : s_WT_append c S a t v = (if zq_myC (S.pt_lastTime a.toNat) S.st_horizon t then mb3 (s_St_putPoint c S a.toNat t v) (fun r22 e22 S22 => if a.toNat < e22.N then mb2 (s_St_headSize e22 S22) (fun r24 S24 => some ((0, r24), e22, S24)) else none) else some ((2, 0), zq_thr c, S)) := by
      rw [s_WT_append, zq_mb3_eq ((zq_e_existing h hk ha).trans (if_pos c1))]
      show (if a.toNat < c.N then _ else none) = _
      rw [if_pos hlt]
      show (if a.toNat < c.N then _ else none) = _
      rw [if_pos hlt, zq_mb2_eq (zq_e_mayCome c S a.toNat t)]
      by_cases c2 : zq_myC (S.pt_lastTime a.toNat) S.st_horizon t
      · rw [if_pos c2, if_neg (by decide), zq_mb2_eq (zq_e_headIsFull (by rw [h2.2.2.1.1]; exact hh)), if_pos (by decide), if_pos c2]
      · rw [if_neg c2, if_pos (by decide), if_pos ⟨by omega, by omega⟩, if_neg c2]; rfl
    have eM : s_Mo_append M a t v = (if zq_myC (S.pt_lastTime a.toNat) S.st_horizon t then some (M.m_head + 1, zq_mcm (MS.w_m_code M 0) a t v) else some (0, MS.w_m_code M 2)) := by
      rw [s_Mo_append, zq_mb2_eq ((zq_e_isSeries h ha).trans (if_pos c1)), if_neg (by decide), zq_mb2_eq (zq_e_why ⟨c1.1, by omega⟩ hh t), ← el, ← eh]
      by_cases c2 : zq_myC (S.pt_lastTime a.toNat) S.st_horizon t
      · rw [if_pos c2, if_pos c2, q_Mo_append_19, if_pos (by decide), zq_mb2_eq (zq_e_come (M := MS.w_m_code M 0) ⟨c1.1, by omega⟩ ⟨h2.2.2.2.2.2.1.1, by have := h2.2.2.2.2.2.2.2; show M.m_points < 8192; omega⟩ t v)]; rfl
      · rw [if_neg c2, if_neg c2, q_Mo_append_19, if_neg (by decide)]
    by_cases c2 : zq_myC (S.pt_lastTime a.toNat) S.st_horizon t
    · rw [if_pos c2] at eW eM
      have hp0 := h2.2.2.2.2.2.1.1
      have hp1 := h2.2.2.2.2.2.2.2
      have hsz := zq_size_le hrow hp0
      obtain ⟨c9, f, g, e1, q1, q2⟩ := zq_e_putPoint hlt hrow (by omega) (by omega) (by omega) c2.1 c2.2.1 (by rw [← hrow.2.2.2.2.1]; exact c2.2.2.1) (v := v)
      have hcN : c9.N = c.N := by obtain ⟨p, b, s, rfl, -⟩ := q1; rfl
      refine ⟨0, S.st_headSize + 1, c9, WS.w_st_headSize (zq_ptw S a.toNat f g (S.pt_size a.toNat + 1) t) (S.st_headSize + 1), M.m_head + 1, zq_mcm (MS.w_m_code M 0) a t v, 0, zq_mcm (MS.w_m_code M 0) a t v, ?_, eM, rfl, Or.inl ⟨rfl, by decide, by rw [h2.2.2.1.1]⟩, ?_⟩
      · rw [eW, zq_mb3_eq e1, if_pos (by rw [hcN]; exact hlt)]; rfl
      · have hsize : M.m_points + 1 ≤ 640 := by have := h1.2.1.1; omega
        have r := zq_RSt_add h2 hlt hN q1 q2 hsize
        rw [ea] at r
        have r4 := zq_pc_RLb (f := f) (g := g) (n := S.pt_size a.toNat + 1) (hd := S.st_headSize + 1) (t := t) (v := v) q1 h4
        have r5 := zq_pc_RX (f := f) (g := g) (n := S.pt_size a.toNat + 1) (hd := S.st_headSize + 1) (t := t) (v := v) q1 h5
        have r1 := zq_pc_RT (f := f) (g := g) (n := S.pt_size a.toNat + 1) (hd := S.st_headSize + 1) (t := t) (v := v) q1 h1
        rw [ea] at r4 r5 r1
        exact ⟨hk, r1, r, h3, ⟨lb, r4, r5⟩, zq_gdB_pc h6 q1 (Int.le_refl _), by show 16 * (M.m_points + 1) + S.tp_size ≤ 20 * ((k + 1 : Nat) : Int); omega⟩
    · rw [if_neg c2] at eW eM
      exact ⟨2, 0, zq_thr c, S, 0, MS.w_m_code M 2, 2, MS.w_m_code M 2, eW, eM, rfl, Or.inr (Or.inr (Or.inl ⟨rfl, by decide⟩)), zq_RA_thr h hk 2⟩
  · refine ⟨3, 0, zq_thr c, S, 0, MS.w_m_code M 1, 1, MS.w_m_code M 1, ?_, ?_, rfl, Or.inr (Or.inl ⟨rfl, by decide⟩), zq_RA_thr h hk 1⟩
    · rw [s_WT_append, zq_mb3_eq ((zq_e_existing h hk ha).trans (if_neg c1))]; rfl
    · rw [s_Mo_append, zq_mb2_eq ((zq_e_isSeries h ha).trans (if_neg c1)), if_pos (by decide), q_Mo_append_19, if_neg (by decide)]
set_option maxRecDepth 100000 in
theorem zq_cnt_flag (S : WS) (i : Nat) : ∀ (m : Nat) (f : Int), 0 ≤ f → ((zq_gsl (zq_cp3 S i) m f).countP (fun y => y.2.2 == 0) : Int) = m - max 0 (min (f + m) (S.pt_packed i) - f)
  | 0, f, _ => by simp [zq_gsl]; omega
  | m + 1, f, h => by
    have ih := zq_cnt_flag S i m (f + 1) (by omega)
    rw [zq_gsl, List.countP_cons]
    have e : (zq_cp3 S i f).2.2 = if f < S.pt_packed i then 1 else 0 := rfl
    by_cases c1 : f < S.pt_packed i
    · rw [e, if_pos c1, if_neg (by decide)]
      omega
    · rw [e, if_neg c1, if_pos (by decide)]
      omega
set_option maxRecDepth 100000 in
theorem zq_rmv_at {S : WS} {i : Nat} {f b : Int} : (zq_rmv S i f b).pt_size i = S.pt_size i - (b - f) ∧ (zq_rmv S i f b).pt_packed i = S.pt_packed i - zq_pkA S i f b ∧ (zq_rmv S i f b).pt_times i = aC (S.pt_times i) b f (S.pt_size i - b) ∧ (zq_rmv S i f b).pt_values i = aC (S.pt_values i) b f (S.pt_size i - b) ∧ (zq_rmv S i f b).pt_lastTime i = S.pt_lastTime i :=
  ⟨nU_at _ _ _, nU_at _ _ _, nU_at _ _ _, nU_at _ _ _, rfl⟩
set_option maxRecDepth 100000 in
theorem zq_rmv_ne {S : WS} {i i' : Nat} {f b : Int} (h : i' ≠ i) : (zq_rmv S i f b).pt_size i' = S.pt_size i' ∧ (zq_rmv S i f b).pt_packed i' = S.pt_packed i' ∧ (zq_rmv S i f b).pt_times i' = S.pt_times i' ∧ (zq_rmv S i f b).pt_values i' = S.pt_values i' ∧ (zq_rmv S i f b).pt_lastTime i' = S.pt_lastTime i' :=
  ⟨nU_ne _ _ _ _ h, nU_ne _ _ _ _ h, nU_ne _ _ _ _ h, nU_ne _ _ _ _ h, rfl⟩
set_option maxRecDepth 100000 in
theorem zq_row_rmv {c : CW} {S : WS} {i : Nat} {P : List zq_P3} {l : Int64} (h : zq_rowI c S i P l) {f b : Int} (hf : 0 ≤ f) (hfb : f < b) (hb : b ≤ S.pt_size i) {K : zq_P3 → Bool} (hK : ∀ j, 0 ≤ j → j < S.pt_size i → (K (zq_cp3 S i j) = true ↔ f ≤ j ∧ j < b)) : zq_rowI c (zq_rmv S i f b) i (P.filter (fun y => !(K y))) l := by
  obtain ⟨hp, h2, h3, h4, h5, h6⟩ := h
  obtain ⟨s1, s2, s3, s4, s5⟩ := zq_rmv_at (S := S) (i := i) (f := f) (b := b)
  have a := hp.1
  have hix : ∀ j, 0 ≤ j → j < S.pt_size i - (b - f) → ∃ j', aC (S.pt_times i) b f (S.pt_size i - b) j = S.pt_times i j' ∧ 0 ≤ j' ∧ j' < S.pt_size i ∧ (j' = if j < f then j else j + (b - f)) := fun j j0 j1 => by
    by_cases z : j < f
    · refine ⟨j, ?_, j0, by omega, by rw [if_pos z]⟩
      unfold aC; rw [if_neg (by omega)]
    · refine ⟨j + (b - f), ?_, by omega, by omega, by rw [if_neg z]⟩
      unfold aC; rw [if_pos (by omega)]; congr 1; omega
  have hpk : zq_pkA S i f b = max 0 (min b (S.pt_packed i) - f) := rfl
  refine ⟨⟨?_, ?_, hp.2.2⟩, h2, ?_, ?_, by rw [s5]; exact h5, by rw [s5]; exact h6⟩
  · rw [s1, s2, hpk]; omega
  · rw [s1, s3]
    intro x y x0 xy y1
    obtain ⟨x', e1, x1, x2, x3⟩ := hix x x0 (by omega)
    obtain ⟨y', e2, y2, y3, y4⟩ := hix y (by omega) y1
    rw [e1, e2]
    refine hp.2.1 x' y' x1 ?_ y3
    rw [x3, y4]
    split <;> split <;> omega
  · rw [s1, s3, s5]
    intro j j0 j1
    obtain ⟨j', e1, z1, z2, -⟩ := hix j j0 j1
    rw [e1]; exact h3 j' z1 z2
  · rw [zq_rmv_cpts hp hf hfb hb, ← h4]
    exact ((zq_cut_filter (g := zq_cp3 S i) (P := K) (n := S.pt_size i) hf (by omega) hb hK).1).symm
set_option maxRecDepth 100000 in
theorem zq_row_letGo {c : CW} {S : WS} {i : Nat} {P : List zq_P3} {l : Int64} (h : zq_rowI c S i P l) {f b : Int} (hf : 0 ≤ f) (hfb : f ≤ b) (hb : b ≤ S.pt_size i) {K : zq_P3 → Bool} (hK : ∀ j, 0 ≤ j → j < S.pt_size i → (K (zq_cp3 S i j) = true ↔ f ≤ j ∧ j < b)) :
    s_St_letGo c S i f b = some ((P.countP K : Int), zq_ltg S i f b) ∧ zq_rowI c (zq_ltg S i f b) i (P.filter (fun y => !(K y))) l ∧ (zq_ltg S i f b).st_headSize = S.st_headSize - (P.countP (fun y => K y && y.2.2 == 0) : Nat) ∧ ((P.countP (fun y => K y && y.2.2 == 1) : Nat) : Int) = zq_pkA S i f b := by
  have hp := h.1
  have a := hp.1
  have cf := zq_cut_filter (g := zq_cp3 S i) (P := K) (n := S.pt_size i) hf hfb hb hK
  have eP : P = zq_gsl (zq_cp3 S i) (S.pt_size i).toNat 0 := h.2.2.2.1.symm
  have c1 : (P.countP K : Int) = b - f := by
    have := cf.2 (fun _ => true)
    rw [← eP] at this
    have e2 : P.countP K = P.countP (fun x => K x && true) := by congr 1; funext x; rw [Bool.and_true]
    rw [e2, this, List.countP_true, zq_gsl_len]; omega
  have c0 : ((P.countP (fun y => K y && y.2.2 == 0) : Nat) : Int) = (b - f) - zq_pkA S i f b := by
    have := cf.2 (fun y => y.2.2 == 0)
    rw [← eP] at this
    rw [this, zq_cnt_flag S i _ f hf]
    show _ = _ - max 0 (min b (S.pt_packed i) - f)
    omega
  have c2 : ((P.countP (fun y => K y && y.2.2 == 1) : Nat) : Int) = zq_pkA S i f b := by
    have := cf.2 (fun y => y.2.2 == 1)
    rw [← eP] at this
    have e0 := zq_cnt_flag S i (b - f).toNat f hf
    have e1 : ∀ (m : Nat) (q : Int), (zq_gsl (zq_cp3 S i) m q).countP (fun y => y.2.2 == 1) + (zq_gsl (zq_cp3 S i) m q).countP (fun y => y.2.2 == 0) = m := by
      intro m
      induction m with
      | zero => intro q; simp [zq_gsl]
      | succ m ih =>
        intro q
        have := ih (q + 1)
        rw [zq_gsl, List.countP_cons, List.countP_cons]
        have e : (zq_cp3 S i q).2.2 = if q < S.pt_packed i then 1 else 0 := rfl
        by_cases z : q < S.pt_packed i
        · rw [e, if_pos z, if_pos (by decide), if_neg (by decide)]; omega
        · rw [e, if_neg z, if_neg (by decide), if_pos (by decide)]; omega
    have e2 := e1 (b - f).toNat f
    rw [this]
    show _ = max 0 (min b (S.pt_packed i) - f)
    omega
  refine ⟨?_, ?_, ?_, c2⟩
  · rw [zq_e_letGo hp ⟨hf, by omega⟩ ⟨by omega, hb⟩, c1, show max 0 (b - f) = b - f by omega]
  · unfold zq_ltg
    by_cases z : f < b
    · rw [if_pos z]
      exact zq_row_rmv (S := WS.w_st_headSize S (S.st_headSize - (b - f - zq_pkA S i f b))) h hf z hb hK
    · rw [if_neg z]
      have e0 : P.countP K = 0 := by omega
      have : P.filter (fun y => !(K y)) = P := by
        rw [List.filter_eq_self]
        intro x hx
        have := (List.countP_eq_zero.mp e0) x hx
        simpa using this
      rw [this]; exact h
  · rw [c0]
    unfold zq_ltg
    by_cases z : f < b
    · rw [if_pos z]; rfl
    · rw [if_neg z]
      have : zq_pkA S i f b = 0 := by show max 0 (min b (S.pt_packed i) - f) = 0; omega
      omega
set_option maxRecDepth 100000 in
theorem zq_ltg_ne {S : WS} {i i' : Nat} {f b : Int} (h : i' ≠ i) : (zq_ltg S i f b).pt_size i' = S.pt_size i' ∧ (zq_ltg S i f b).pt_packed i' = S.pt_packed i' ∧ (zq_ltg S i f b).pt_times i' = S.pt_times i' ∧ (zq_ltg S i f b).pt_values i' = S.pt_values i' ∧ (zq_ltg S i f b).pt_lastTime i' = S.pt_lastTime i' := by
  unfold zq_ltg
  by_cases z : f < b
  · rw [if_pos z]; exact zq_rmv_ne (S := WS.w_st_headSize S (S.st_headSize - (b - f - zq_pkA S i f b))) h
  · rw [if_neg z]; exact ⟨rfl, rfl, rfl, rfl, rfl⟩
set_option maxRecDepth 100000 in
/-- only points and the head's size have changed -/
def zq_ptsW (S : WS) (A : Nat → Int) (B C : Nat → Int → Int64) (E : Nat → Int) (H : Int) : WS := WS.w_st_headSize (WS.w_pt_size (WS.w_pt_values (WS.w_pt_times (WS.w_pt_packed S A) B) C) E) H
set_option maxRecDepth 100000 in
def zq_ptsS (S S9 : WS) : Prop := ∃ A B C E H, S9 = zq_ptsW S A B C E H
set_option maxRecDepth 100000 in
theorem zq_ptsS_tr {S S1 S2 : WS} (h1 : zq_ptsS S S1) (h2 : zq_ptsS S1 S2) : zq_ptsS S S2 := by
  obtain ⟨A, B, C, E, H, rfl⟩ := h1
  obtain ⟨A', B', C', E', H', rfl⟩ := h2
  exact ⟨A', B', C', E', H', rfl⟩
set_option maxRecDepth 100000 in
theorem zq_ptsS_ltg (S : WS) (i : Nat) (f b : Int) : zq_ptsS S (zq_ltg S i f b) := by
  unfold zq_ltg
  by_cases z : f < b
  · rw [if_pos z]
    exact ⟨(zq_rmv (WS.w_st_headSize S (S.st_headSize - (b - f - zq_pkA S i f b))) i f b).pt_packed, (zq_rmv (WS.w_st_headSize S (S.st_headSize - (b - f - zq_pkA S i f b))) i f b).pt_times, (zq_rmv (WS.w_st_headSize S (S.st_headSize - (b - f - zq_pkA S i f b))) i f b).pt_values, (zq_rmv (WS.w_st_headSize S (S.st_headSize - (b - f - zq_pkA S i f b))) i f b).pt_size, (zq_rmv (WS.w_st_headSize S (S.st_headSize - (b - f - zq_pkA S i f b))) i f b).st_headSize, rfl⟩
  · rw [if_neg z]; exact ⟨S.pt_packed, S.pt_times, S.pt_values, S.pt_size, S.st_headSize, rfl⟩
set_option maxRecDepth 100000 in
theorem zq_cnt_split {α : Type} (P K : α → Bool) (l : List α) : l.countP P = l.countP (fun x => K x && P x) + (l.filter (fun x => !(K x))).countP P := by
  induction l with
  | nil => rfl
  | cons x l ih =>
    rw [List.countP_cons, List.countP_cons, List.filter_cons, ih]
    cases hK : K x <;> cases hP : P x <;> simp [hP, List.countP_cons] <;> omega
set_option maxRecDepth 100000 in
/-- points go on both sides -/
theorem zq_RSt_go {c : CW} {S S9 : WS} {M : MS} (h : zq_RSt c S M) {s : Int} {a b : Int64} {a' : Int → Int} {b' c' : Int → Int64} {d' : Int → Int} {n' : Nat} (hg : zq_gsl (fun j => (a' j, b' j, c' j, d' j)) n' 0 = zq_gone s a b (zq_mpts M)) (hS : zq_ptsS S S9) (hr : ∀ i, i < c.N → zq_rowI c S9 i (zq_serP (i : Int) (zq_gone s a b (zq_mpts M))) (M.m_lasts (i : Int))) (hh : S9.st_headSize = M.m_head - ((zq_mpts M).countP (fun x => zq_isP s a b x && x.2.2.2 == 0) : Nat)) :
    zq_RSt c S9 (MS.w_m_head (zq_mpw M a' b' c' d' ((n' : Nat) : Int)) (M.m_head - ((zq_mpts M).countP (fun x => zq_isP s a b x && x.2.2.2 == 0) : Nat))) ∧ (n' : Int) ≤ M.m_points := by
  obtain ⟨h1, h2, h3, h4, h5, h6, h7, h8⟩ := h
  have ep : zq_mpts (MS.w_m_head (zq_mpw M a' b' c' d' ((n' : Nat) : Int)) (M.m_head - ((zq_mpts M).countP (fun x => zq_isP s a b x && x.2.2.2 == 0) : Nat))) = zq_gone s a b (zq_mpts M) := by
    rw [← hg]; rfl
  have hsub : ∀ x ∈ zq_gone s a b (zq_mpts M), x ∈ zq_mpts M := fun x hx => (List.mem_filter.mp hx).1
  have hn : (n' : Int) ≤ M.m_points := by
    have e1 := congrArg List.length hg
    rw [zq_gsl_len] at e1
    have e2 : (zq_gone s a b (zq_mpts M)).length ≤ (zq_mpts M).length := List.length_filter_le _ _
    have e3 : (zq_mpts M).length = M.m_points.toNat := by unfold zq_mpts; rw [zq_gsl_len]
    have := h6.1
    omega
  obtain ⟨A, B, C, E, H, rfl⟩ := hS
  refine ⟨⟨fun i hi => by rw [ep]; exact hr i hi, h2, ⟨hh, ?_⟩, h4, h5, ⟨by show (0 : Int) ≤ (n' : Int); omega, by show (n' : Int) ≤ 8192; have := h6.2.1; omega, fun p p0 p1 => ?_⟩, fun x hx => ?_, by show (n' : Int) ≤ 640; omega⟩, hn⟩
  · rw [ep]
    show M.m_head - _ = _
    have := zq_cnt_split (fun x : zq_P4 => x.2.2.2 == 0) (zq_isP s a b) (zq_mpts M)
    have e : ((zq_gone s a b (zq_mpts M)).countP (fun x => x.2.2.2 == 0)) = ((zq_mpts M).filter (fun x => !(zq_isP s a b x))).countP (fun x => x.2.2.2 == 0) := rfl
    rw [e, h3.2]
    omega
  · have p1' : p < (n' : Int) := p1
    have hx : (zq_gsl (fun j => (a' j, b' j, c' j, d' j)) n' 0)[p.toNat]? = some (a' p, b' p, c' p, d' p) := by
      rw [zq_gsl_get _ _ _ _ (by omega), show (0 : Int) + (p.toNat : Int) = p by omega]
    have hm := h7 _ (hsub _ (by rw [← hg]; exact List.mem_of_getElem? hx))
    show iR (a' p) ∧ 0 ≤ d' p ∧ d' p ≤ 1
    have z1 : 0 ≤ a' p := hm.1
    have z2 : a' p < (c.N : Int) := hm.2.1
    have z3 : d' p = 0 ∨ d' p = 1 := hm.2.2
    have hx' : (zq_mpts M).length = M.m_points.toNat := by unfold zq_mpts; rw [zq_gsl_len]
    refine ⟨?_, by omega, by omega⟩
    have := h6.2.2
    obtain ⟨j, j0, j1, j2⟩ := zq_gsl_mem (hsub _ (by rw [← hg]; exact List.mem_of_getElem? hx) : (a' p, b' p, c' p, d' p) ∈ zq_gsl (zq_pg4 M) M.m_points.toNat 0)
    have e1 : a' p = M.m_pointSeries j := congrArg Prod.fst j2
    rw [e1]
    exact (this j j0 (by have := h6.1; omega)).1
  · rw [ep] at hx
    exact h7 x (hsub x hx)
set_option maxRecDepth 100000 in
theorem zq_RA_go {k : Nat} {c : CW} {S S9 : WS} {M : MS} (h : zq_RA k c S M) (hk : k < 512) {z sc : Int} {s : Int} {a b : Int64} {a' : Int → Int} {b' c' : Int → Int64} {d' : Int → Int} {n' : Nat} (hg : zq_gsl (fun j => (a' j, b' j, c' j, d' j)) n' 0 = zq_gone s a b (zq_mpts M)) (hS : zq_ptsS S S9) (hr : ∀ i, i < c.N → zq_rowI c S9 i (zq_serP (i : Int) (zq_gone s a b (zq_mpts M))) (M.m_lasts (i : Int))) (hh : S9.st_headSize = M.m_head - ((zq_mpts M).countP (fun x => zq_isP s a b x && x.2.2.2 == 0) : Nat)) (hsc : S.st_scars = sc ∨ S.st_scars + 1 = sc ∧ sc ≤ 64) :
    zq_RA (k + 1) c (WS.w_st_scars S9 sc) (MS.w_m_head (zq_mpw (MS.w_m_scars (MS.w_m_code M z) sc) a' b' c' d' ((n' : Nat) : Int)) (M.m_head - ((zq_mpts M).countP (fun x => zq_isP s a b x && x.2.2.2 == 0) : Nat))) := by
  obtain ⟨h0, h1, h2, h3, ⟨lb, h4, h5⟩, h6, h7⟩ := h
  obtain ⟨⟨r1, r2, r3, r4, r5, r6, r7, r8⟩, r9⟩ := zq_RSt_go h2 hg hS hr hh
  have hsc5 := h2.2.2.2.2.1
  obtain ⟨A, B, C, E, H, rfl⟩ := hS
  refine ⟨hk, h1, ⟨r1, r2, r3, r4, ⟨rfl, ?_, ?_⟩, r6, r7, r8⟩, h3, ⟨lb, h4, h5⟩, zq_gdB_up h6 (Int.le_refl _), ?_⟩
  · show 0 ≤ sc; omega
  · show sc ≤ 64; omega
  · show 16 * (n' : Int) + S.tp_size ≤ 20 * ((k + 1 : Nat) : Int)
    omega
set_option maxRecDepth 100000 in
theorem zq_cnt_isP {s : Int} (hs : 0 ≤ s) (a b : Int64) (Q : zq_P3 → Bool) (l : List zq_P4) : l.countP (fun x => zq_isP s a b x && Q (zq_d3 x)) = (zq_serP s l).countP (fun y => zq_inR a b y && Q y) :=
  zq_cnt_ser a b Q (zq_isP s a b) l (fun x _ => zq_isP_ser hs a b x)
set_option maxRecDepth 100000 in
theorem zq_p_delete : st_delete zq_RA := by
  intro k c S M s a b hk h ha
  have lo := zq_RA_lo h hk
  by_cases c1 : 0 ≤ s ∧ s < (c.N : Int)
  · have h' := h
    obtain ⟨h0, h1, h2, h3, ⟨lb, h4, h5⟩, h6, h7⟩ := h'
    have hN := h4.1.1
    have hlt : s.toNat < c.N := by omega
    have ea : ((s.toNat : Nat) : Int) = s := by omega
    have hrow : zq_rowI c S s.toNat (zq_serP ((s.toNat : Nat) : Int) (zq_mpts M)) (M.m_lasts ((s.toNat : Nat) : Int)) := h2.1 s.toNat hlt
    rw [ea] at hrow
    have hmp := h2.2.2.2.2.2.1
    have hsc := h2.2.2.2.2.1
    have sR : iR s := ha
    have eW0 : s_WT_delete c S s a b = if a.toInt ≤ b.toInt then mb2 (s_Pt_firstFrom c S s.toNat a) (fun r30 S30 => mb2 (s_Pt_firstFrom c S30 s.toNat ((ll (min b.toInt 1099511627775)) + (ll 1))) (fun r31 S31 => mb2 (s_Pt_packedAmong c S31 s.toNat r30 r31) (fun r32 S32 => if w32 r32 ≤ 0 then q_WT_delete_69 c s.toNat r30 r31 0 S32 else q_WT_delete_69 c s.toNat r30 r31 1 S32))) else some ((2, 0), zq_thr c, S) := by
      rw [s_WT_delete, zq_mb3_eq ((zq_e_existing h hk ha).trans (if_pos c1))]
      show (if s.toNat < c.N then _ else none) = _
      rw [if_pos hlt]
      show (if s.toNat < c.N then _ else none) = _
      rw [if_pos hlt]
      by_cases z : a.toInt ≤ b.toInt
      · rw [if_pos z, if_pos z]
      · rw [if_neg z, if_neg z, if_pos ⟨by omega, by omega⟩]; rfl
    have eM0 : s_Mo_delete M s a b = if a.toInt ≤ b.toInt then q_Mo_delete_25 s a b 0 M else q_Mo_delete_25 s a b 2 M := by
      rw [s_Mo_delete, zq_mb2_eq ((zq_e_isSeries h ha).trans (if_pos c1)), if_neg (by decide)]
    by_cases c2 : a.toInt ≤ b.toInt
    · rw [if_pos c2] at eW0 eM0
      obtain ⟨f, g, f1, g1, f2, fg, g2, hin⟩ := zq_e_range hrow.1 (fun j j0 j1 => ⟨(hrow.2.2.1 j j0 j1).1, (hrow.2.2.1 j j0 j1).2.1⟩) a b c2
      obtain ⟨l1, l2, l3, l4⟩ := zq_row_letGo hrow f2 fg g2 (K := zq_inR a b) hin
      have b0 := zq_e_between hmp sR a b false
      have b1 := zq_e_between hmp sR a b true
      have n0 : (zq_mpts M).countP (fun x => zq_isP s a b x && (!false || x.2.2.2 == 1)) = (zq_serP s (zq_mpts M)).countP (zq_inR a b) := by
        have := zq_cnt_isP c1.1 a b (fun _ => true) (zq_mpts M)
        rw [show (fun x : zq_P4 => zq_isP s a b x && (!false || x.2.2.2 == 1)) = (fun x => zq_isP s a b x && true) by funext x; simp, this]
        congr 1; funext y; rw [Bool.and_true]
      have n1 : (zq_mpts M).countP (fun x => zq_isP s a b x && (!true || x.2.2.2 == 1)) = (zq_serP s (zq_mpts M)).countP (fun y => zq_inR a b y && y.2.2 == 1) := by
        have := zq_cnt_isP c1.1 a b (fun y => y.2.2 == 1) (zq_mpts M)
        rw [show (fun x : zq_P4 => zq_isP s a b x && (!true || x.2.2.2 == 1)) = (fun x => zq_isP s a b x && (zq_d3 x).2.2 == 1) by funext x; simp [zq_d3], this]
      have n2 : (zq_mpts M).countP (fun x => zq_isP s a b x && x.2.2.2 == 0) = (zq_serP s (zq_mpts M)).countP (fun y => zq_inR a b y && y.2.2 == 0) := zq_cnt_isP c1.1 a b (fun y => y.2.2 == 0) (zq_mpts M)
      rw [n0] at b0
      rw [n1, l4] at b1
      have hpk : 0 ≤ zq_pkA S s.toNat f g ∧ zq_pkA S s.toNat f g ≤ 8192 := by have := hrow.1.1; unfold zq_pkA; omega
      -- both, behind the choice of a scar
      have fin : ∀ sc : Int, (S.st_scars = sc ∨ S.st_scars + 1 = sc ∧ sc ≤ 64) → q_WT_delete_110 c s.toNat f g (WS.w_st_scars S sc) = some ((0, ((zq_serP s (zq_mpts M)).countP (zq_inR a b) : Int)), c, WS.w_st_scars (zq_ltg S s.toNat f g) sc) ∧ ∃ M9, mb2 (s_Mo_go (MS.w_m_scars (MS.w_m_code M 0) sc) s a b) (fun r19 S19 => some ((((zq_serP s (zq_mpts M)).countP (zq_inR a b) : Nat) : Int), S19)) = some ((((zq_serP s (zq_mpts M)).countP (zq_inR a b) : Nat) : Int), M9) ∧ M9.m_code = 0 ∧ zq_RA (k + 1) c (WS.w_st_scars (zq_ltg S s.toNat f g) sc) M9 := by
        intro sc hsc2
        constructor
        · rw [q_WT_delete_110]
          have z := (zq_row_letGo (S := WS.w_st_scars S sc) hrow f2 fg g2 (K := zq_inR a b) hin).1
          rw [zq_mb2_eq z]
          unfold zq_ltg
          by_cases w : f < g
          · rw [if_pos w, if_pos w]; rfl
          · rw [if_neg w, if_neg w]
        · obtain ⟨a', b', c', d', n', e1, e2⟩ := zq_e_go (M := MS.w_m_scars (MS.w_m_code M 0) sc) hmp sR a b
          refine ⟨_, zq_mb2_eq e1, rfl, ?_⟩
          refine zq_RA_go h hk (s := s) (a := a) (b := b) (S9 := zq_ltg S s.toNat f g) e2 (zq_ptsS_ltg _ _ _ _) (fun i hi => ?_) ?_ hsc2
          · by_cases w : i = s.toNat
            · subst w
              rw [ea, zq_gone_ser c1.1]
              exact l2
            · obtain ⟨o1, o2, o3, o4, o5⟩ := zq_ltg_ne (S := S) (f := f) (b := g) w
              rw [zq_gone_other c1.1 (by omega)]
              exact zq_row_same (h2.1 i hi) o1 o2 o3 o4 o5 rfl rfl
          · rw [l3, h2.2.2.1.1, n2]
      have e69 : ∀ t0 : Int, t0 = 0 ∨ t0 = 1 → (q_WT_delete_69 c s.toNat f g t0 S = if t0 = 0 then q_WT_delete_110 c s.toNat f g S else if S.st_scars < 64 then q_WT_delete_110 c s.toNat f g (WS.w_st_scars S (S.st_scars + 1)) else some ((1, 0), zq_thr c, S)) := by
        intro t0 ht
        rcases ht with rfl | rfl
        · rw [q_WT_delete_69, if_pos (by decide), q_WT_delete_98, if_pos (by decide), if_pos rfl]
        · rw [q_WT_delete_69, if_neg (by decide), if_neg (by decide)]
          show (if w32 S.st_scars < 64 then _ else _) = _
          rw [zq_w32i (z := S.st_scars) (by omega) (by omega)]
          by_cases w : S.st_scars < 64
          · rw [if_pos w, if_pos w, q_WT_delete_98, if_neg (by decide)]; rfl
          · rw [if_neg w, if_neg w, if_pos ⟨by omega, by omega⟩]; rfl
      have eM1 : s_Mo_delete M s a b = if zq_pkA S s.toNat f g ≤ 0 then q_Mo_delete_65 s a b ((zq_serP s (zq_mpts M)).countP (zq_inR a b) : Int) 0 (MS.w_m_code M 0) else q_Mo_delete_65 s a b ((zq_serP s (zq_mpts M)).countP (zq_inR a b) : Int) 1 (MS.w_m_code M 0) := by
        rw [eM0, q_Mo_delete_25, if_pos (by decide)]
        have z0 : s_Mo_between (MS.w_m_code M 0) s a b 0 = some ((((zq_serP s (zq_mpts M)).countP (zq_inR a b) : Nat) : Int), MS.w_m_code M 0) := by
          have := zq_e_between (M := MS.w_m_code M 0) hmp sR a b false
          rw [show zq_mpts (MS.w_m_code M 0) = zq_mpts M from rfl, n0] at this
          exact this
        have z1 : s_Mo_between (MS.w_m_code M 0) s a b 1 = some (zq_pkA S s.toNat f g, MS.w_m_code M 0) := by
          have := zq_e_between (M := MS.w_m_code M 0) hmp sR a b true
          rw [show zq_mpts (MS.w_m_code M 0) = zq_mpts M from rfl, n1, l4] at this
          exact this
        rw [zq_mb2_eq z0, zq_mb2_eq z1, zq_w32i (z := zq_pkA S s.toNat f g) (by omega) (by omega)]
      have eW1 : s_WT_delete c S s a b = if zq_pkA S s.toNat f g ≤ 0 then q_WT_delete_69 c s.toNat f g 0 S else q_WT_delete_69 c s.toNat f g 1 S := by
        rw [eW0, zq_mb2_eq f1, zq_mb2_eq g1, zq_mb2_eq (zq_e_packedAmong hrow.1 (by have := hrow.1.1; omega) (by have := hrow.1.1; omega)), zq_w32i (z := zq_pkA S s.toNat f g) (by omega) (by omega)]
      by_cases c3 : zq_pkA S s.toNat f g ≤ 0
      · rw [if_pos c3] at eM1 eW1
        rw [e69 0 (Or.inl rfl), if_pos rfl] at eW1
        obtain ⟨w1, M9, m1, m2, m3⟩ := fin S.st_scars (Or.inl rfl)
        refine ⟨0, ((zq_serP s (zq_mpts M)).countP (zq_inR a b) : Int), c, WS.w_st_scars (zq_ltg S s.toNat f g) S.st_scars, ((zq_serP s (zq_mpts M)).countP (zq_inR a b) : Int), M9, M9.m_code, M9, eW1.trans w1, ?_, rfl, Or.inl ⟨rfl, by rw [m2]; decide, rfl⟩, m3⟩
        rw [eM1, q_Mo_delete_65, if_pos (by decide), q_Mo_delete_88, if_pos (by decide), q_Mo_delete_103]
        rw [← m1]
        show mb2 (s_Mo_go (MS.w_m_scars (MS.w_m_code M 0) (M.m_scars + 0)) s a b) _ = _
        rw [Int.add_zero, ← hsc.1]
      · rw [if_neg c3] at eM1 eW1
        rw [e69 1 (Or.inr rfl), if_neg (by decide)] at eW1
        by_cases c4 : S.st_scars < 64
        · rw [if_pos c4] at eW1
          obtain ⟨w1, M9, m1, m2, m3⟩ := fin (S.st_scars + 1) (Or.inr ⟨rfl, by omega⟩)
          refine ⟨0, ((zq_serP s (zq_mpts M)).countP (zq_inR a b) : Int), c, WS.w_st_scars (zq_ltg S s.toNat f g) (S.st_scars + 1), ((zq_serP s (zq_mpts M)).countP (zq_inR a b) : Int), M9, M9.m_code, M9, eW1.trans w1, ?_, rfl, Or.inl ⟨rfl, by rw [m2]; decide, rfl⟩, m3⟩
          rw [eM1, q_Mo_delete_65, if_neg (by decide), show (MS.w_m_code M 0).m_scars = S.st_scars from hsc.1.symm, zq_w32i (z := S.st_scars) (by omega) (by omega), if_neg (by omega), q_Mo_delete_88, if_neg (by decide), q_Mo_delete_103]
          rw [← m1]
          show mb2 (s_Mo_go (MS.w_m_scars (MS.w_m_code M 0) (M.m_scars + 1)) s a b) _ = _
          rw [← hsc.1]
        · rw [if_neg c4] at eW1
          refine ⟨1, 0, zq_thr c, S, 0, MS.w_m_code M 3, 3, MS.w_m_code M 3, eW1, ?_, rfl, Or.inr (Or.inr (Or.inr ⟨rfl, by decide⟩)), zq_RA_thr h hk 3⟩
          rw [eM1, q_Mo_delete_65, if_neg (by decide), show (MS.w_m_code M 0).m_scars = S.st_scars from hsc.1.symm, zq_w32i (z := S.st_scars) (by omega) (by omega), if_pos (by omega)]
    · rw [if_neg c2] at eW0 eM0
      refine ⟨2, 0, zq_thr c, S, 0, MS.w_m_code M 2, 2, MS.w_m_code M 2, eW0, ?_, rfl, Or.inr (Or.inr (Or.inl ⟨rfl, by decide⟩)), zq_RA_thr h hk 2⟩
      rw [eM0, q_Mo_delete_25, if_neg (by decide)]
  · refine ⟨3, 0, zq_thr c, S, 0, MS.w_m_code M 1, 1, MS.w_m_code M 1, ?_, ?_, rfl, Or.inr (Or.inl ⟨rfl, by decide⟩), zq_RA_thr h hk 1⟩
    · rw [s_WT_delete, zq_mb3_eq ((zq_e_existing h hk ha).trans (if_neg c1))]; rfl
    · rw [s_Mo_delete, zq_mb2_eq ((zq_e_isSeries h ha).trans (if_neg c1)), if_pos (by decide), q_Mo_delete_25, if_neg (by decide)]
set_option maxRecDepth 100000 in
/-- f m + .. + f (m + n - 1) -/
def zq_sumR (f : Nat → Nat) : Nat → Nat → Nat
  | _, 0 => 0
  | m, n + 1 => f m + zq_sumR f (m + 1) n
set_option maxRecDepth 100000 in
theorem zq_sumR_snoc (f : Nat → Nat) : ∀ (n m : Nat), zq_sumR f m (n + 1) = zq_sumR f m n + f (m + n)
  | 0, m => by simp [zq_sumR]
  | n + 1, m => by
    rw [zq_sumR, zq_sumR_snoc f n (m + 1), zq_sumR]
    rw [show m + 1 + n = m + (n + 1) by omega]; omega
set_option maxRecDepth 100000 in
theorem zq_sumR_add (f g : Nat → Nat) : ∀ (n m : Nat), zq_sumR (fun i => f i + g i) m n = zq_sumR f m n + zq_sumR g m n
  | 0, m => rfl
  | n + 1, m => by simp only [zq_sumR]; rw [zq_sumR_add f g n (m + 1)]; omega
set_option maxRecDepth 100000 in
theorem zq_sumR_congr {f g : Nat → Nat} : ∀ (n m : Nat), (∀ i, m ≤ i → i < m + n → f i = g i) → zq_sumR f m n = zq_sumR g m n
  | 0, m, _ => rfl
  | n + 1, m, h => by rw [zq_sumR, zq_sumR, h m (by omega) (by omega), zq_sumR_congr n (m + 1) (fun i i0 i1 => h i (by omega) (by omega))]
set_option maxRecDepth 100000 in
theorem zq_sumR_one {s : Nat} : ∀ (n m : Nat), m ≤ s → s < m + n → zq_sumR (fun i => if s = i then 1 else 0) m n = 1
  | 0, m, h0, h1 => by omega
  | n + 1, m, h0, h1 => by
    rw [zq_sumR]
    by_cases z : s = m
    · rw [if_pos z]
      have : zq_sumR (fun i => if s = i then 1 else 0) (m + 1) n = zq_sumR (fun _ => 0) (m + 1) n := zq_sumR_congr n _ (fun i i0 i1 => by rw [if_neg (by omega)])
      have z0 : ∀ (n m : Nat), zq_sumR (fun _ => 0) m n = 0 := by
        intro n; induction n with
        | zero => intro m; rfl
        | succ n ih => intro m; rw [zq_sumR, ih]
      rw [this, z0]
    · rw [if_neg z, zq_sumR_one n (m + 1) (by omega) (by omega)]
set_option maxRecDepth 100000 in
/-- the points of all rows -/
theorem zq_sum_ser (Q : zq_P3 → Bool) (N : Nat) : ∀ (l : List zq_P4), (∀ x ∈ l, 0 ≤ x.1 ∧ x.1 < (N : Int)) → zq_sumR (fun i => (zq_serP (i : Int) l).countP Q) 0 N = l.countP (fun x => Q (zq_d3 x))
  | [], _ => by
    have z0 : ∀ (n m : Nat), zq_sumR (fun i => (zq_serP (i : Int) []).countP Q) m n = 0 := by
      intro n; induction n with
      | zero => intro m; rfl
      | succ n ih => intro m; rw [zq_sumR, ih]; simp [zq_serP]
    rw [z0]; rfl
  | x :: l, h => by
    have ih := zq_sum_ser Q N l (fun y hy => h y (List.mem_cons_of_mem _ hy))
    have hx := h x (by simp)
    have e : ∀ i : Nat, (zq_serP (i : Int) (x :: l)).countP Q = (if x.1.toNat = i then (if Q (zq_d3 x) then 1 else 0) else 0) + (zq_serP (i : Int) l).countP Q := fun i => by
      rw [show x :: l = [x] ++ l from rfl, zq_serP_app, List.countP_append]
      congr 1
      by_cases z : x.1.toNat = i
      · have : x.1 = (i : Int) := by omega
        rw [if_pos z]
        simp [zq_serP, this, List.countP_cons]
      · have : ¬ x.1 = (i : Int) := by omega
        rw [if_neg z]
        simp [zq_serP, this]
    have e2 : zq_sumR (fun i => (zq_serP (i : Int) (x :: l)).countP Q) 0 N = zq_sumR (fun i => (if x.1.toNat = i then (if Q (zq_d3 x) then 1 else 0) else 0) + (zq_serP (i : Int) l).countP Q) 0 N := zq_sumR_congr N 0 (fun i _ _ => e i)
    rw [e2, zq_sumR_add, ih, List.countP_cons]
    by_cases q : Q (zq_d3 x) = true
    · rw [if_pos q, zq_sumR_one N 0 (by omega) (by omega)]; omega
    · rw [if_neg q]
      have z0 : ∀ (n m : Nat), zq_sumR (fun i => if x.1.toNat = i then 0 else 0) m n = 0 := by
        intro n; induction n with
        | zero => intro m; rfl
        | succ n ih => intro m; rw [zq_sumR, ih]; simp
      rw [z0]; omega
set_option maxRecDepth 100000 in
/-- all rows let go what is older -/
theorem zq_E_moveH {c : CW} (hN : c.N ≤ 256) (P : Nat → List zq_P3) (l : Nat → Int64) {v : Int64} (hv : 0 ≤ v.toInt ∧ v.toInt ≤ 1099511627775) : ∀ (n k m : Nat) (acc : Int) (S : WS), m + n = c.N → n < k → (∀ i, i < c.N → zq_rowI c S i (if i < m then (P i).filter (fun y => !(zq_inR (ll 0) (v - ll 1) y)) else P i) (l i)) →
    ∃ S9, q_St_moveHorizon_10 c k v acc (m : Int) S = some (acc + (zq_sumR (fun i => (P i).countP (zq_inR (ll 0) (v - ll 1))) m n : Nat), S9) ∧ zq_ptsS S S9 ∧ (∀ i, i < c.N → zq_rowI c S9 i ((P i).filter (fun y => !(zq_inR (ll 0) (v - ll 1) y))) (l i)) ∧ S9.st_headSize = S.st_headSize - (zq_sumR (fun i => (P i).countP (fun y => zq_inR (ll 0) (v - ll 1) y && y.2.2 == 0)) m n : Nat)
  | 0, 0, m, acc, S => fun _ h => by omega
  | 0, k + 1, m, acc, S => fun hm _ hr => by
    refine ⟨S, ?_, ⟨S.pt_packed, S.pt_times, S.pt_values, S.pt_size, S.st_headSize, rfl⟩, fun i hi => ?_, ?_⟩
    · rw [q_St_moveHorizon_10, zq_w32i (z := (c.N : Int)) (by omega) (by omega), zq_w32i (z := (m : Int)) (by omega) (by omega), if_pos (by omega)]
      simp [zq_sumR]
    · have := hr i hi
      rw [if_pos (by omega)] at this
      exact this
    · simp [zq_sumR]
  | n + 1, 0, m, acc, S => fun _ h => by omega
  | n + 1, k + 1, m, acc, S => fun hm hk hr => by
    have hrow := hr m (by omega)
    rw [if_neg (by omega)] at hrow
    obtain ⟨r, r1, r2, r3, r4, r5⟩ := zq_e_firstFrom hrow.1 v
    have hv1 : (v - ll 1).toInt = v.toInt - 1 := by
      have : v = ll v.toInt := (ll_of v).symm
      rw [this, ll_sub, ll_toInt ⟨by omega, by omega⟩, ll_toInt ⟨by omega, by omega⟩]
    have h00 : (ll 0).toInt = 0 := by decide
    have hin : ∀ j, 0 ≤ j → j < S.pt_size m → (zq_inR (ll 0) (v - ll 1) (zq_cp3 S m j) = true ↔ 0 ≤ j ∧ j < r) := fun j j0 j1 => by
      have t := hrow.2.2.1 j j0 j1
      unfold zq_inR zq_cp3
      simp only [decide_eq_true_eq, hv1, h00]
      constructor
      · rintro ⟨z1, z2⟩
        refine ⟨j0, ?_⟩
        by_cases w : j < r
        · exact w
        · have := r5 j (by omega) j1; omega
      · rintro ⟨z1, z2⟩
        have := r4 j j0 z2
        omega
    obtain ⟨l1, l2, l3, -⟩ := zq_row_letGo hrow (Int.le_refl 0) r2 r3 (K := zq_inR (ll 0) (v - ll 1)) hin
    obtain ⟨S9, e1, e2, e3, e4⟩ := zq_E_moveH hN P l hv n k (m + 1) (acc + ((P m).countP (zq_inR (ll 0) (v - ll 1)) : Int)) (zq_ltg S m 0 r) (by omega) (by omega) (fun i hi => by
      by_cases z : i = m
      · subst z; rw [if_pos (by omega)]; exact l2
      · obtain ⟨o1, o2, o3, o4, o5⟩ := zq_ltg_ne (S := S) (f := 0) (b := r) z
        have := hr i hi
        have z2 : (if i < m + 1 then (P i).filter (fun y => !(zq_inR (ll 0) (v - ll 1) y)) else P i) = (if i < m then (P i).filter (fun y => !(zq_inR (ll 0) (v - ll 1) y)) else P i) := by
          by_cases w : i < m
          · rw [if_pos w, if_pos (by omega)]
          · rw [if_neg w, if_neg (by omega)]
        rw [z2]
        exact zq_row_same this o1 o2 o3 o4 o5 rfl rfl)
    refine ⟨S9, ?_, zq_ptsS_tr (zq_ptsS_ltg _ _ _ _) e2, e3, ?_⟩
    · rw [q_St_moveHorizon_10, zq_w32i (z := (c.N : Int)) (by omega) (by omega), zq_w32i (z := (m : Int)) (by omega) (by omega), if_neg (by omega), if_pos ⟨⟨by omega, by omega⟩, hN⟩, Int.toNat_natCast]
      show (if m < c.N then _ else none) = _
      rw [if_pos (by omega)]
      show (if m < c.N then _ else none) = _
      rw [if_pos (by omega), zq_mb2_eq r1, zq_mb2_eq l1, q_St_moveHorizon_54]
      rw [show ((m + 1 : Nat) : Int) = (m : Int) + 1 by omega] at e1
      rw [e1, zq_sumR]
      congr 2
      omega
    · rw [e4, l3, zq_sumR]; omega
set_option maxRecDepth 100000 in
theorem zq_p_retain : st_retain zq_RA := by
  intro k c S M v hk h
  have lo := zq_RA_lo h hk
  have h' := h
  obtain ⟨h0, h1, h2, h3, ⟨lb, h4, h5⟩, h6, h7⟩ := h'
  have hN := h4.1.1
  have hz := h2.2.1
  have eT : s_St_isTime c S v = some (if 0 ≤ v.toInt ∧ v.toInt ≤ 1099511627775 then 1 else 0, S) := by
    rw [s_St_isTime]
    by_cases c1 : v.toInt < 0
    · rw [if_pos c1, if_neg (by omega)]
    · rw [if_neg c1]
      by_cases c2 : 1099511627775 < v.toInt
      · rw [if_pos c2, if_neg (by omega)]
      · rw [if_neg c2, if_pos (by omega)]
  have e23 : q_WT_retain_23 c S = some ((2, 0), zq_thr c, S) := by rw [q_WT_retain_23, if_pos ⟨by omega, by omega⟩]; rfl
  by_cases c1 : S.st_horizon.toInt ≤ v.toInt ∧ v.toInt ≤ 1099511627775
  · have hv : 0 ≤ v.toInt ∧ v.toInt ≤ 1099511627775 := by omega
    have hmp := h2.2.2.2.2.2.1
    have hpts := h2.2.2.2.2.2.2.1
    obtain ⟨S9, e1, e2, e3, e4⟩ := zq_E_moveH hN (fun i => zq_serP (i : Int) (zq_mpts M)) (fun i => M.m_lasts (i : Int)) hv c.N fU 0 0 (WS.w_st_horizon S v) (by omega) (by show c.N < 1000000; omega) (fun i hi => by rw [if_neg (by omega)]; exact h2.1 i hi)
    have cnt : ∀ Q : zq_P3 → Bool, zq_sumR (fun i => (zq_serP (i : Int) (zq_mpts M)).countP Q) 0 c.N = (zq_mpts M).countP (fun x => Q (zq_d3 x)) := fun Q => zq_sum_ser Q c.N (zq_mpts M) (fun x hx => ⟨(hpts x hx).1, (hpts x hx).2.1⟩)
    have n0 : (zq_mpts M).countP (fun x => zq_isP (-1) (ll 0) (v - ll 1) x && (!false || x.2.2.2 == 1)) = (zq_mpts M).countP (fun x => zq_inR (ll 0) (v - ll 1) (zq_d3 x)) := by
      have : (fun x : zq_P4 => zq_isP (-1) (ll 0) (v - ll 1) x && (!false || x.2.2.2 == 1)) = (fun x => zq_inR (ll 0) (v - ll 1) (zq_d3 x)) := by
        funext x; rw [zq_isP_all]; simp
      rw [this]
    have n2 : (zq_mpts M).countP (fun x => zq_isP (-1) (ll 0) (v - ll 1) x && x.2.2.2 == 0) = (zq_mpts M).countP (fun x => (fun y : zq_P3 => zq_inR (ll 0) (v - ll 1) y && y.2.2 == 0) (zq_d3 x)) := by
      have : (fun x : zq_P4 => zq_isP (-1) (ll 0) (v - ll 1) x && x.2.2.2 == 0) = (fun x => (fun y : zq_P3 => zq_inR (ll 0) (v - ll 1) y && y.2.2 == 0) (zq_d3 x)) := by
        funext x; rw [zq_isP_all]; rfl
      rw [this]
    have eW : s_WT_retain c S v = some ((0, ((zq_mpts M).countP (fun x => zq_inR (ll 0) (v - ll 1) (zq_d3 x)) : Int)), c, S9) := by
      rw [s_WT_retain, zq_mb2_eq eT, if_pos hv, if_neg (by decide)]
      show (if S.st_horizon.toInt ≤ v.toInt then _ else _) = _
      rw [if_pos c1.1]
      have : s_St_moveHorizon c S v = some (((zq_mpts M).countP (fun x => zq_inR (ll 0) (v - ll 1) (zq_d3 x)) : Int), S9) := by
        rw [s_St_moveHorizon]
        rw [cnt] at e1
        rw [Int.zero_add] at e1
        exact e1
      rw [zq_mb2_eq this]
    obtain ⟨a', b', c', d', n', g1, g2⟩ := zq_e_go (M := MS.w_m_code M 0) hmp (s := -1) ⟨by omega, by omega⟩ (ll 0) (v - ll 1)
    have zb : s_Mo_between (MS.w_m_code M 0) (-1) (ll 0) (v - ll 1) 0 = some ((((zq_mpts M).countP (fun x => zq_inR (ll 0) (v - ll 1) (zq_d3 x)) : Nat) : Int), MS.w_m_code M 0) := by
      have := zq_e_between (M := MS.w_m_code M 0) hmp (s := -1) ⟨by omega, by omega⟩ (ll 0) (v - ll 1) false
      rw [show zq_mpts (MS.w_m_code M 0) = zq_mpts M from rfl, n0] at this
      exact this
    have hrow9 : ∀ i, i < c.N → zq_rowI c S9 i (zq_serP (i : Int) (zq_gone (-1) (ll 0) (v - ll 1) (zq_mpts M))) (M.m_lasts (i : Int)) := fun i hi => by rw [zq_gone_all]; exact e3 i hi
    have hh9 : S9.st_headSize = M.m_head - ((zq_mpts M).countP (fun x => zq_isP (-1) (ll 0) (v - ll 1) x && x.2.2.2 == 0) : Nat) := by
      rw [e4, cnt, n2]; show S.st_headSize - _ = _; rw [h2.2.2.1.1]
    obtain ⟨A, B, C, E, H, rfl⟩ := e2
    obtain ⟨⟨r1, r2, r3, r4, r5, r6, r7, r8⟩, r9⟩ := zq_RSt_go (S := S) (S9 := zq_ptsW S A B C E H) h2 g2 ⟨A, B, C, E, H, rfl⟩ (fun i hi => hrow9 i hi) hh9
    refine ⟨0, _, c, _, ((zq_mpts M).countP (fun x => zq_inR (ll 0) (v - ll 1) (zq_d3 x)) : Int), MS.w_m_horizon (MS.w_m_head (zq_mpw (MS.w_m_code M 0) a' b' c' d' ((n' : Nat) : Int)) (M.m_head - ((zq_mpts M).countP (fun x => zq_isP (-1) (ll 0) (v - ll 1) x && x.2.2.2 == 0) : Nat))) v, 0, _, eW, ?_, rfl, Or.inl ⟨rfl, by decide, rfl⟩, ?_⟩
    · rw [s_Mo_retain, if_neg (by rw [← hz.1]; omega), if_pos c1.2, q_Mo_retain_23, if_pos (by decide), zq_mb2_eq zb, zq_mb2_eq g1]
      rfl
    · refine ⟨hk, h1, ⟨r1, ⟨rfl, hv⟩, r3, r4, r5, r6, r7, r8⟩, h3, ⟨lb, h4, h5⟩, zq_gdB_up h6 (Int.le_refl _), ?_⟩
      show 16 * (n' : Int) + S.tp_size ≤ 20 * ((k + 1 : Nat) : Int)
      omega
  · refine ⟨2, 0, zq_thr c, S, 0, MS.w_m_code M 1, 1, MS.w_m_code M 1, ?_, ?_, rfl, Or.inr ⟨rfl, by decide⟩, zq_RA_thr h hk 1⟩
    · rw [s_WT_retain, zq_mb2_eq eT]
      by_cases c2 : 0 ≤ v.toInt ∧ v.toInt ≤ 1099511627775
      · rw [if_pos c2, if_neg (by decide)]
        show (if S.st_horizon.toInt ≤ v.toInt then _ else _) = _
        rw [if_neg (by omega), e23]
      · rw [if_neg c2, if_pos (by decide), e23]
    · have e18 : q_Mo_retain_18 v M = some (0, MS.w_m_code M 1) := by rw [q_Mo_retain_18, q_Mo_retain_23, if_neg (by decide)]
      rw [s_Mo_retain, ← hz.1]
      by_cases c2 : v.toInt < S.st_horizon.toInt
      · rw [if_pos c2, e18]
      · rw [if_neg c2, if_neg (by omega), e18]
set_option maxRecDepth 100000 in
theorem zq_E_seen {c : CW} {S : WS} (hN : c.N ≤ 256) (hs : ∀ i, i < c.N → 0 ≤ S.pt_size i ∧ S.pt_size i ≤ 8192) : ∀ (n k m : Nat) (acc : Int), m + n = c.N → n < k → 0 ≤ acc → acc ≤ 8192 * m → q_St_seenPoints_4 c k acc (m : Int) S = some (acc + (zq_sumR (fun i => (S.pt_size i).toNat) m n : Nat), S)
  | 0, 0, m, acc, _, h, _, _ => by omega
  | 0, k + 1, m, acc, hm, _, _, _ => by
    rw [q_St_seenPoints_4, zq_w32i (z := (c.N : Int)) (by omega) (by omega), zq_w32i (z := (m : Int)) (by omega) (by omega), if_pos (by omega)]
    simp [zq_sumR]
  | n + 1, 0, m, acc, _, h, _, _ => by omega
  | n + 1, k + 1, m, acc, hm, hk, h0, h1 => by
    have hz := hs m (by omega)
    rw [q_St_seenPoints_4, zq_w32i (z := (c.N : Int)) (by omega) (by omega), zq_w32i (z := (m : Int)) (by omega) (by omega), if_neg (by omega), if_pos ⟨⟨by omega, by omega⟩, hN⟩, Int.toNat_natCast]
    show (if m < c.N then _ else none) = _
    rw [if_pos (by omega)]
    show q_St_seenPoints_34 c (q_St_seenPoints_4 c k) (m : Int) (S.pt_size m) acc S = _
    rw [q_St_seenPoints_34]
    have ih := zq_E_seen hN hs n k (m + 1) (acc + S.pt_size m) (by omega) (by omega) (by omega) (by omega)
    rw [show ((m + 1 : Nat) : Int) = (m : Int) + 1 by omega] at ih
    rw [ih, zq_sumR]
    congr 2; omega
set_option maxRecDepth 100000 in
theorem zq_p_count : st_count zq_RA := by
  intro k c S M a hk h ha
  have lo := zq_RA_lo h hk
  have a1 := ha.1; have a2 := ha.2
  have h' := h
  obtain ⟨h0, h1, h2, h3, ⟨lb, h4, h5⟩, h6, h7⟩ := h'
  have hN := h4.1.1
  have eM : s_Mo_count M a = if 0 ≤ a ∧ a ≤ 4 then q_Mo_count_15 a 0 M else some (0, MS.w_m_code M 1) := by
    have e10 : q_Mo_count_10 a M = some (0, MS.w_m_code M 1) := by rw [q_Mo_count_10, q_Mo_count_15, if_neg (by decide)]
    rw [s_Mo_count, zq_w32i (z := a) (by omega) (by omega), e10]
    by_cases c1 : a < 0
    · rw [if_pos c1, if_neg (by omega)]
    · rw [if_neg c1]
      by_cases c2 : a ≤ 4
      · rw [if_pos c2, if_pos (by omega)]
      · rw [if_neg c2, if_neg (by omega)]
  by_cases c0 : 0 ≤ a ∧ a ≤ 4
  · rw [if_pos c0] at eM
    have seen : s_St_seenPoints c S = some (M.m_points, S) := by
      have e := zq_E_seen (S := S) hN (fun i hi => by have := (h2.1 i hi).1.1; omega) c.N fU 0 0 (by omega) (by show c.N < 1000000; omega) (by omega) (by omega)
      have e2 : zq_sumR (fun i => (S.pt_size i).toNat) 0 c.N = zq_sumR (fun i => (zq_serP (i : Int) (zq_mpts M)).countP (fun _ => true)) 0 c.N := zq_sumR_congr c.N 0 (fun i _ i1 => by
        have := congrArg List.length (h2.1 i (by omega)).2.2.2.1
        unfold zq_cpts at this
        rw [zq_gsl_len] at this
        rw [List.countP_true]; exact this)
      rw [e2, zq_sum_ser (fun _ => true) c.N (zq_mpts M) (fun x hx => ⟨(h2.2.2.2.2.2.2.1 x hx).1, (h2.2.2.2.2.2.2.1 x hx).2.1⟩), List.countP_true] at e
      rw [s_St_seenPoints]
      have q1 : (zq_mpts M).length = M.m_points.toNat := by unfold zq_mpts; rw [zq_gsl_len]
      have q2 := h2.2.2.2.2.2.1.1
      have q3 : (0 : Int) + (((zq_mpts M).length : Nat) : Int) = M.m_points := by omega
      rw [q3] at e
      exact e
    have key : ∃ r, s_WT_count c S a = some ((0, r), c, S) ∧ q_Mo_count_15 a 0 M = some (r, MS.w_m_code M 0) := by
      rw [s_WT_count, q_Mo_count_15, if_pos (show w32 0 ≤ 0 by decide), zq_w32i (z := a) (by omega) (by omega)]
      by_cases z0 : a = 0
      · exact ⟨(c.N : Int), by rw [if_pos z0]; rfl, by rw [if_pos z0, ← h4.1.2]⟩
      rw [if_neg z0, if_neg z0]
      by_cases z1 : a = 1
      · exact ⟨S.st_headSize, by rw [if_pos z1]; rfl, by rw [if_pos z1, h2.2.2.1.1]⟩
      rw [if_neg z1, if_neg z1]
      by_cases z2 : a = 2
      · exact ⟨S.st_parcels, by rw [if_pos z2]; rfl, by rw [if_pos z2, h2.2.2.2.1.1]⟩
      rw [if_neg z2, if_neg z2]
      by_cases z3 : a = 3
      · exact ⟨S.st_scars, by rw [if_pos z3]; rfl, by rw [if_pos z3, h2.2.2.2.2.1.1]⟩
      rw [if_neg z3, if_neg z3, if_pos (by omega), zq_mb2_eq seen]
      exact ⟨M.m_points, rfl, rfl⟩
    obtain ⟨r, k1, k2⟩ := key
    exact ⟨0, r, c, S, r, MS.w_m_code M 0, 0, MS.w_m_code M 0, k1, eM.trans k2, rfl, Or.inl ⟨rfl, by decide, rfl⟩, zq_RA_same h hk 0⟩
  · rw [if_neg c0] at eM
    refine ⟨2, 0, zq_thr c, S, 0, MS.w_m_code M 1, 1, MS.w_m_code M 1, ?_, eM, rfl, Or.inr ⟨rfl, by decide⟩, zq_RA_thr h hk 1⟩
    rw [s_WT_count, zq_w32i (z := a) (by omega) (by omega), if_neg (by omega), if_neg (by omega), if_neg (by omega), if_neg (by omega), if_neg (by omega), if_pos ⟨by omega, by omega⟩]; rfl
/-! pack -/
set_option maxRecDepth 100000 in
def zq_pk1 (x : zq_P4) : zq_P4 := (x.1, x.2.1, x.2.2.1, if x.2.2.2 = 0 then 1 else x.2.2.2)
set_option maxRecDepth 100000 in
def zq_pkD (d : Int → Int) (p : Int) : Int → Int := fun j => if 0 ≤ j ∧ j < p then (if d j = 0 then 1 else d j) else d j
set_option maxRecDepth 100000 in
theorem zq_pkD_up (d : Int → Int) (p : Int) (h0 : 0 ≤ p) : aU (zq_pkD d p) p (if d p = 0 then 1 else d p) = zq_pkD d (p + 1) := by
  funext j
  unfold aU zq_pkD
  by_cases z : j = p
  · subst z; rw [if_pos rfl, if_pos (show 0 ≤ j ∧ j < j + 1 by omega)]
  · rw [if_neg z]
    by_cases w : 0 ≤ j ∧ j < p
    · rw [if_pos w, if_pos (show 0 ≤ j ∧ j < p + 1 by omega)]
    · rw [if_neg w, if_neg (show ¬ (0 ≤ j ∧ j < p + 1) by omega)]
set_option maxRecDepth 100000 in
theorem zq_E_mpack {M : MS} (h0 : 0 ≤ M.m_points) (h8 : M.m_points ≤ 8192) (hd : ∀ p, 0 ≤ p → p < M.m_points → M.m_places p = 0 ∨ M.m_places p = 1) : ∀ (n k : Nat) (p : Int), 0 ≤ p → p + n = M.m_points → n < k → q_Mo_pack_43 k p (MS.w_m_places M (zq_pkD M.m_places p)) = some (M.m_head, MS.w_m_parcels (MS.w_m_head (MS.w_m_places M (zq_pkD M.m_places M.m_points)) 0) (M.m_parcels + 1))
  | 0, 0, p, _, _, h => by omega
  | 0, k + 1, p, p0, hp, _ => by
    have : p = M.m_points := by omega
    subst this
    rw [q_Mo_pack_43]
    show (if w32 M.m_points ≤ w32 M.m_points then _ else _) = _
    rw [if_pos (Int.le_refl _)]
  | n + 1, 0, p, _, _, h => by omega
  | n + 1, k + 1, p, p0, hp, hk => by
    have ih := zq_E_mpack h0 h8 hd n k (p + 1) (by omega) (by omega) (by omega)
    have e0 : zq_pkD M.m_places p p = M.m_places p := by unfold zq_pkD; rw [if_neg (by omega)]
    have hd' := hd p p0 (by omega)
    rw [q_Mo_pack_43]
    show (if w32 M.m_points ≤ w32 p then _ else _) = _
    rw [zq_w32i (z := M.m_points) (by omega) (by omega), zq_w32i (z := p) (by omega) (by omega), if_neg (by omega), if_pos (by omega)]
    show (if w32 (zq_pkD M.m_places p p) = 0 then _ else _) = _
    rw [e0]
    have st : ∀ t, t = (if M.m_places p = 0 then 1 else M.m_places p) → q_Mo_pack_75 (q_Mo_pack_43 k) p t p (MS.w_m_places M (zq_pkD M.m_places p)) = some (M.m_head, MS.w_m_parcels (MS.w_m_head (MS.w_m_places M (zq_pkD M.m_places M.m_points)) 0) (M.m_parcels + 1)) := by
      intro t ht
      have tb : -128 ≤ t ∧ t ≤ 127 := by rw [ht]; split <;> omega
      rw [q_Mo_pack_75, if_pos (by omega), if_pos tb]
      show q_Mo_pack_43 k (p + 1) (MS.w_m_places M (aU (zq_pkD M.m_places p) p t)) = _
      rw [ht, zq_pkD_up _ _ p0]
      exact ih
    by_cases z : M.m_places p = 0
    · rw [z, if_pos (by decide)]
      exact st 1 (by rw [if_pos z])
    · have z1 : M.m_places p = 1 := by omega
      rw [zq_w32i (z := M.m_places p) (by omega) (by omega), if_neg z, if_pos (by omega)]
      show q_Mo_pack_75 (q_Mo_pack_43 k) p (zq_pkD M.m_places p p) p _ = _
      rw [e0]
      exact st _ (by rw [if_neg z])
set_option maxRecDepth 100000 in
def zq_pkW (S : WS) (m : Nat) : WS := WS.w_pt_packed S (fun i => if i < m then S.pt_size i else S.pt_packed i)
set_option maxRecDepth 100000 in
theorem zq_E_wpack {c : CW} {S : WS} (hN : c.N ≤ 256) : ∀ (n k m : Nat) (v : Int), m + n = c.N → n < k → q_St_packHead_26 c k v (m : Int) (zq_pkW S m) = some (v, zq_pkW S c.N)
  | 0, 0, m, v, _, h => by omega
  | 0, k + 1, m, v, hm, _ => by
    have : m = c.N := by omega
    subst this
    rw [q_St_packHead_26, if_pos (by omega)]
  | n + 1, 0, m, v, _, h => by omega
  | n + 1, k + 1, m, v, hm, hk => by
    rw [q_St_packHead_26, zq_w32i (z := (c.N : Int)) (by omega) (by omega), zq_w32i (z := (m : Int)) (by omega) (by omega), if_neg (by omega), if_pos ⟨⟨by omega, by omega⟩, hN⟩, Int.toNat_natCast]
    show (if m < c.N then _ else none) = _
    rw [if_pos (by omega)]
    show q_St_packHead_51 c (q_St_packHead_26 c k) v (m : Int) (WS.w_pt_packed S (nU (fun i => if i < m then S.pt_size i else S.pt_packed i) m (S.pt_size m))) = _
    have e : nU (fun i => if i < m then S.pt_size i else S.pt_packed i) m (S.pt_size m) = (fun i => if i < m + 1 then S.pt_size i else S.pt_packed i) := by
      funext i; unfold nU
      by_cases z : i = m
      · subst z; rw [if_pos rfl, if_pos (by omega)]
      · rw [if_neg z]
        show (if i < m then S.pt_size i else S.pt_packed i) = _
        by_cases w : i < m
        · rw [if_pos w, if_pos (by omega)]
        · rw [if_neg w, if_neg (by omega)]
    rw [e, q_St_packHead_51]
    have ih := zq_E_wpack (S := S) hN n k (m + 1) v (by omega) (by omega)
    rw [show ((m + 1 : Nat) : Int) = (m : Int) + 1 by omega] at ih
    exact ih
set_option maxRecDepth 100000 in
theorem zq_serP_pk (s : Int) (l : List zq_P4) (h : ∀ x ∈ l, x.2.2.2 = 0 ∨ x.2.2.2 = 1) : zq_serP s (l.map zq_pk1) = (zq_serP s l).map (fun y => (y.1, y.2.1, 1)) := by
  induction l with
  | nil => rfl
  | cons x l ih =>
    have hx := h x (by simp)
    have ih' := ih (fun y hy => h y (List.mem_cons_of_mem _ hy))
    rw [List.map_cons, show zq_pk1 x :: l.map zq_pk1 = [zq_pk1 x] ++ l.map zq_pk1 from rfl, show x :: l = [x] ++ l from rfl, zq_serP_app, zq_serP_app, List.map_append, ih']
    congr 1
    unfold zq_serP
    by_cases z : x.1 = s
    · have : (zq_pk1 x).1 = s := z
      simp only [List.filter_cons, List.filter_nil, z, this, beq_self_eq_true, if_true, List.map_cons, List.map_nil]
      unfold zq_d3 zq_pk1
      rcases hx with e | e <;> simp [e]
    · have : ¬ (zq_pk1 x).1 = s := z
      simp [List.filter_cons, z, this]
set_option maxRecDepth 100000 in
theorem zq_pk_row {c : CW} {S : WS} {N i : Nat} {P : List zq_P3} {l : Int64} (hi : i < N) (h : zq_rowI c S i P l) : zq_rowI c (zq_pkW S N) i (P.map (fun y => (y.1, y.2.1, 1))) l := by
  obtain ⟨⟨p1, p2, p3⟩, h2, h3, h4, h5, h6⟩ := h
  have e : (zq_pkW S N).pt_packed i = S.pt_size i := if_pos hi
  refine ⟨⟨?_, p2, p3⟩, h2, h3, ?_, h5, h6⟩
  · rw [e]; show 0 ≤ S.pt_size i ∧ S.pt_size i ≤ S.pt_size i ∧ S.pt_size i ≤ c.pc i ∧ S.pt_size i ≤ c.pv i ∧ S.pt_size i ≤ 8192; omega
  · rw [← h4]
    unfold zq_cpts
    rw [zq_gsl_map]
    refine zq_gsl_congr _ _ (fun j j0 j1 => ?_)
    unfold zq_cp3
    rw [e]
    show (S.pt_times i j, S.pt_values i j, if j < S.pt_size i then (1 : Int) else 0) = (S.pt_times i j, S.pt_values i j, 1)
    rw [if_pos (by have j1' : j < 0 + (((S.pt_size i).toNat : Nat) : Int) := j1; omega)]
set_option maxRecDepth 100000 in
theorem zq_p_pack : st_pack zq_RA := by
  intro k c S M hk h
  have lo := zq_RA_lo h hk
  have h' := h
  obtain ⟨h0, h1, h2, h3, ⟨lb, h4, h5⟩, h6, h7⟩ := h'
  have hN := h4.1.1
  have hh := zq_head_le h2
  have hmp := h2.2.2.2.2.2.1
  have hpts := h2.2.2.2.2.2.2.1
  have eh := h2.2.2.1.1
  have hpar := h2.2.2.2.1
  have hpl : ∀ p, 0 ≤ p → p < M.m_points → M.m_places p = 0 ∨ M.m_places p = 1 := fun p p0 p1 => by have := (hmp.2.2 p p0 p1).2; omega
  have ew : ∀ S1 : WS, q_St_packHead_19 c S.st_headSize S1 = some (S.st_headSize, zq_pkW (WS.w_st_headSize S1 0) c.N) := fun S1 => by
    rw [q_St_packHead_19]
    have := zq_E_wpack (S := WS.w_st_headSize S1 0) hN c.N fU 0 S.st_headSize (by omega) (by show c.N < 1000000; omega)
    have e0 : zq_pkW (WS.w_st_headSize S1 0) 0 = WS.w_st_headSize S1 0 := by
      show WS.w_pt_packed (WS.w_st_headSize S1 0) (fun i => if i < 0 then S1.pt_size i else S1.pt_packed i) = _
      have : (fun i => if i < 0 then S1.pt_size i else S1.pt_packed i) = S1.pt_packed := by funext i; rw [if_neg (by omega)]
      rw [this]
    rw [e0] at this
    exact this
  -- the rows behind it
  have hrow : ∀ i, i < c.N → zq_rowI c (zq_pkW S c.N) i (zq_serP (i : Int) ((zq_mpts M).map zq_pk1)) (M.m_lasts (i : Int)) := fun i hi => by
    rw [zq_serP_pk _ _ (fun x hx => (hpts x hx).2.2)]
    exact zq_pk_row hi (h2.1 i hi)
  by_cases c1 : S.st_headSize = 0
  · -- nothing is in the head
    have hz : (zq_mpts M).countP (fun x => x.2.2.2 == 0) = 0 := by have := h2.2.2.1.2; omega
    have hmap : (zq_mpts M).map zq_pk1 = zq_mpts M := by
      have : ∀ x ∈ zq_mpts M, zq_pk1 x = x := fun x hx => by
        have := (List.countP_eq_zero.mp hz) x hx
        unfold zq_pk1
        rw [if_neg (by simpa using this)]
      rw [List.map_congr_left (g := id) this, List.map_id]
    rw [hmap] at hrow
    refine ⟨0, S.st_headSize, c, zq_pkW (WS.w_st_headSize S 0) c.N, 0, MS.w_m_code M 0, 0, MS.w_m_code M 0, ?_, ?_, rfl, Or.inl ⟨rfl, by decide, by rw [c1]⟩, ?_⟩
    · rw [s_WT_pack]
      show (if w32 S.st_headSize ≤ 0 then _ else _) = _
      rw [zq_w32i (z := S.st_headSize) (by omega) (by omega), if_pos (by omega), q_WT_pack_33]
      have : s_St_packHead c S = some (S.st_headSize, zq_pkW (WS.w_st_headSize S 0) c.N) := by
        rw [s_St_packHead, zq_w32i (z := S.st_headSize) (by omega) (by omega), if_pos (by omega), ew]
      rw [zq_mb2_eq this]
    · rw [s_Mo_pack, ← eh, zq_w32i (z := S.st_headSize) (by omega) (by omega), if_pos (by omega), q_Mo_pack_21, q_Mo_pack_22, if_neg (by decide), ← eh, zq_w32i (z := S.st_headSize) (by omega) (by omega), if_pos c1]
    · refine ⟨hk, h1, ⟨fun i hi => hrow i hi, h2.2.1, ⟨by show (0 : Int) = M.m_head; omega, h2.2.2.1.2⟩, h2.2.2.2⟩, h3, ⟨lb, h4, h5⟩, zq_gdB_up h6 (Int.le_refl _), by show 16 * M.m_points + S.tp_size ≤ _; omega⟩
  · by_cases c2 : S.st_parcels < 32
    · have em := zq_E_mpack (M := MS.w_m_code M 0) hmp.1 hmp.2.1 hpl M.m_points.toNat fU 0 (by omega) (by have := hmp.1; show (0 : Int) + ((M.m_points.toNat : Nat) : Int) = M.m_points; omega) (by have := hmp.2.1; show M.m_points.toNat < 1000000; omega)
      have e0 : zq_pkD M.m_places 0 = M.m_places := by funext j; unfold zq_pkD; rw [if_neg (by omega)]
      have em' : q_Mo_pack_43 fU 0 (MS.w_m_code M 0) = some (M.m_head, MS.w_m_parcels (MS.w_m_head (MS.w_m_places (MS.w_m_code M 0) (zq_pkD M.m_places M.m_points)) 0) (M.m_parcels + 1)) := by
        have : MS.w_m_places (MS.w_m_code M 0) (zq_pkD (MS.w_m_code M 0).m_places 0) = MS.w_m_code M 0 := by
          show MS.w_m_places (MS.w_m_code M 0) (zq_pkD M.m_places 0) = _
          rw [e0]
        rw [this] at em
        exact em
      have ep : zq_mpts (MS.w_m_parcels (MS.w_m_head (MS.w_m_places (MS.w_m_code M 0) (zq_pkD M.m_places M.m_points)) 0) (M.m_parcels + 1)) = (zq_mpts M).map zq_pk1 := by
        show zq_gsl _ M.m_points.toNat 0 = (zq_gsl _ M.m_points.toNat 0).map zq_pk1
        rw [zq_gsl_map]
        refine zq_gsl_congr _ _ (fun j j0 j1 => ?_)
        show (M.m_pointSeries j, M.m_pointTimes j, M.m_pointValues j, zq_pkD M.m_places M.m_points j) = zq_pk1 (zq_pg4 M j)
        have j1' : j < 0 + ((M.m_points.toNat : Nat) : Int) := j1
        have := hmp.1
        unfold zq_pkD
        rw [if_pos (show 0 ≤ j ∧ j < M.m_points by omega)]
        rfl
      refine ⟨0, S.st_headSize, c, zq_pkW (WS.w_st_headSize (WS.w_st_parcels S (S.st_parcels + 1)) 0) c.N, M.m_head, MS.w_m_parcels (MS.w_m_head (MS.w_m_places (MS.w_m_code M 0) (zq_pkD M.m_places M.m_points)) 0) (M.m_parcels + 1), 0, _, ?_, ?_, rfl, Or.inl ⟨rfl, by decide, by rw [eh]⟩, ?_⟩
      · rw [s_WT_pack]
        show (if w32 S.st_headSize ≤ 0 then _ else _) = _
        rw [zq_w32i (z := S.st_headSize) (by omega) (by omega), if_neg (by omega)]
        show (if w32 S.st_parcels < 32 then _ else _) = _
        rw [zq_w32i (z := S.st_parcels) (by omega) (by omega), if_pos c2, q_WT_pack_33]
        have : s_St_packHead c S = some (S.st_headSize, zq_pkW (WS.w_st_headSize (WS.w_st_parcels S (S.st_parcels + 1)) 0) c.N) := by
          rw [s_St_packHead, zq_w32i (z := S.st_headSize) (by omega) (by omega), if_neg (by omega), ew]
        rw [zq_mb2_eq this]
      · have e22 : q_Mo_pack_22 0 M = some (M.m_head, MS.w_m_parcels (MS.w_m_head (MS.w_m_places (MS.w_m_code M 0) (zq_pkD M.m_places M.m_points)) 0) (M.m_parcels + 1)) := by
          rw [q_Mo_pack_22, if_neg (by decide), ← eh, zq_w32i (z := S.st_headSize) (by omega) (by omega), if_neg c1, em', ← eh]
        rw [s_Mo_pack, ← eh, zq_w32i (z := S.st_headSize) (by omega) (by omega), if_neg (by omega), ← hpar.1, zq_w32i (z := S.st_parcels) (by omega) (by omega), if_neg (by omega), q_Mo_pack_21, e22, eh, hpar.1]
      · refine ⟨hk, h1, ⟨fun i hi => by rw [ep]; exact hrow i hi, h2.2.1, ⟨rfl, ?_⟩, ⟨by show S.st_parcels + 1 = M.m_parcels + 1; rw [hpar.1], by show 0 ≤ S.st_parcels + 1; omega, by show S.st_parcels + 1 ≤ 32; omega⟩, h2.2.2.2.2.1, ⟨hmp.1, hmp.2.1, fun p p0 p1 => ⟨(hmp.2.2 p p0 p1).1, ?_⟩⟩, fun x hx => ?_, h2.2.2.2.2.2.2.2⟩, h3, ⟨lb, h4, h5⟩, zq_gdB_up h6 (Int.le_refl _), by show 16 * M.m_points + S.tp_size ≤ _; omega⟩
        · rw [ep]
          show (0 : Int) = _
          have : ((zq_mpts M).map zq_pk1).countP (fun x => x.2.2.2 == 0) = 0 := by
            rw [List.countP_eq_zero]
            intro x hx
            obtain ⟨y, hy, rfl⟩ := List.mem_map.mp hx
            unfold zq_pk1
            by_cases z : y.2.2.2 = 0
            · simp [z]
            · simp [z]
          omega
        · have p1' : p < M.m_points := p1
          have := hpl p p0 p1'
          show 0 ≤ zq_pkD M.m_places M.m_points p ∧ zq_pkD M.m_places M.m_points p ≤ 1
          unfold zq_pkD
          rw [if_pos ⟨p0, p1'⟩]
          rcases this with e | e <;> simp [e]
        · rw [ep] at hx
          obtain ⟨y, hy, rfl⟩ := List.mem_map.mp hx
          have := hpts y hy
          refine ⟨this.1, this.2.1, ?_⟩
          unfold zq_pk1
          rcases this.2.2 with e | e <;> simp [e]
    · refine ⟨1, 0, zq_thr c, S, 0, MS.w_m_code M 1, 1, MS.w_m_code M 1, ?_, ?_, rfl, Or.inr ⟨rfl, by decide⟩, zq_RA_thr h hk 1⟩
      · rw [s_WT_pack]
        show (if w32 S.st_headSize ≤ 0 then _ else _) = _
        rw [zq_w32i (z := S.st_headSize) (by omega) (by omega), if_neg (by omega)]
        show (if w32 S.st_parcels < 32 then _ else _) = _
        rw [zq_w32i (z := S.st_parcels) (by omega) (by omega), if_neg c2, if_pos ⟨by omega, by omega⟩]; rfl
      · rw [s_Mo_pack, ← eh, zq_w32i (z := S.st_headSize) (by omega) (by omega), if_neg (by omega), ← hpar.1, zq_w32i (z := S.st_parcels) (by omega) (by omega), if_pos (by omega), q_Mo_pack_22, if_pos (by decide)]
set_option maxRecDepth 100000 in
/-- rooms of rows have changed, n points came -/
def zq_pcN (c0 c : CW) (n : Nat) : Prop := ∃ (p q : Nat → Int) (b s : Nat), c = CW.w_pv (CW.w_pc (CW.w_bs (CW.w_bc c0 b) s) p) q ∧ (b ≤ c0.bc ∧ c0.bc ≤ b + 2 * n) ∧ (s ≤ c0.bs ∧ c0.bs ≤ s + 2600 * n)
set_option maxRecDepth 100000 in
theorem zq_pcN_up {c0 c c9 : CW} {n i : Nat} (h : zq_pcN c0 c n) (hq : zq_pcS c c9 i) : zq_pcN c0 c9 (n + 1) := by
  obtain ⟨p, q, b, s, rfl, h1, h2⟩ := h
  obtain ⟨p', b', s', rfl, u1, u2, u3⟩ := hq
  have v1 : b' ≤ b ∧ b ≤ b' + 2 := u2
  have v2 : s' ≤ s ∧ s ≤ s' + 2600 := u3
  exact ⟨_, _, b', s', rfl, by omega, by omega⟩
set_option maxRecDepth 100000 in
/-- in the middle of bulk -/
def zq_RM (c0 : CW) (S0 : WS) (p0 : Int) (n : Nat) (c : CW) (S : WS) (M : MS) : Prop := zq_pcN c0 c n ∧ zq_RT c S M ∧ zq_RSt c S M ∧ zq_RF S M ∧ (∃ lb, zq_RLb c S M lb ∧ zq_RX c S M lb) ∧ S.tp_size = S0.tp_size ∧ M.m_code = 0 ∧ M.m_points = p0 + n
set_option maxRecDepth 100000 in
theorem zq_E_bulk {c0 : CW} {S0 : WS} {p0 : Int} (hp : 16 * p0 + S0.tp_size ≤ 10240) (hlo : 400 ≤ c0.bc) (hs : 205000 ≤ c0.bs) (hbc : 2 * (S0.tp_size / 16) + 2 ≤ c0.bc) (hbs : 2600 * (S0.tp_size / 16) + 2600 ≤ c0.bs) {i : Nat} : ∀ (k n : Nat) (c : CW) (S : WS) (M : MS), zq_RM c0 S0 p0 n c S M → i < c.N → 16 * (n : Int) ≤ S0.tp_size → (S0.tp_size - 16 * n) / 16 < k →
    ∃ (n9 : Nat) (c9 : CW) (S9 : WS) (M9 : MS), q_WT_bulk_14 k c i (n : Int) (16 * (n : Int)) S = some ((0, (n9 : Int)), c9, WS.w_tp_size S9 0) ∧ q_Mo_bulk_28 k (i : Int) (n : Int) M = some ((n9 : Int), MS.w_m_length M9 0) ∧ zq_RM c0 S0 p0 n9 c9 S9 M9 ∧ 16 * (n9 : Int) ≤ S0.tp_size
  | 0, n, c, S, M, _, _, h1, h2 => by omega
  | k + 1, n, c, S, M, hm, hi, h1, h2 => by
    have hm' := hm
    obtain ⟨m1, m2, m3, m4, ⟨lb, m5, m6⟩, m7, m8, m9⟩ := hm'
    have hN := m5.1.1
    have ht := m2.2.1
    have hh := zq_head_le m3
    have e97 : q_WT_bulk_97 c (n : Int) S = some ((0, (n : Int)), c, WS.w_tp_size S 0) := by
      rw [q_WT_bulk_97, zq_mb2_eq (zq_e_keep m2 (Int.le_refl 0) ht.1)]
    have e88 : q_Mo_bulk_88 (n : Int) M = some ((n : Int), MS.w_m_length M 0) := rfl
    rw [q_WT_bulk_14, q_Mo_bulk_28, zq_mb2_eq (zq_e_size c S), zq_w32i (z := S.tp_size) (by omega) (by omega), zq_w32i (z := 16 * (n : Int) + 16) (by omega) (by omega), ← m2.1, zq_w32i (z := S.tp_size) (by omega) (by omega)]
    by_cases c1 : S.tp_size < 16 * (n : Int) + 16
    · rw [if_pos c1, if_pos c1, e97, e88]
      exact ⟨n, c, S, M, rfl, rfl, hm, h1⟩
    · rw [if_neg c1, if_neg c1]
      have lW := zq_e_longAt (zq_RT_tpI m2) (a := 16 * (n : Int)) (by omega)
      have lW8 := zq_e_longAt (zq_RT_tpI m2) (a := 16 * (n : Int) + 8) (by omega)
      have lM := zq_e_numberAt (zq_RT_moI m2) (a := 16 * (n : Int)) (by have := m2.1; omega)
      have lM8 := zq_e_numberAt (zq_RT_moI m2) (a := 16 * (n : Int) + 8) (by have := m2.1; omega)
      rw [← zq_RT_bt m2] at lM lM8
      rw [zq_mb2_eq lW, zq_mb2_eq lM, zq_mb2_eq (zq_e_mayCome c S i _), zq_mb2_eq (zq_e_why (M := M) (a := (i : Int)) ⟨by omega, by omega⟩ hh _)]
      have hrow : zq_rowI c S i (zq_serP (i : Int) (zq_mpts M)) (M.m_lasts (i : Int)) := m3.1 i hi
      rw [← hrow.2.2.2.2.1, ← m3.2.1.1]
      by_cases c2 : zq_myC (S.pt_lastTime i) S.st_horizon (zq_lnF (zq_bt S) (16 * (n : Int)) 8 (ll 0) 0)
      · rw [if_pos c2, if_pos c2, if_neg (by decide), if_pos (by decide), zq_mb2_eq (zq_e_headIsFull (by rw [m3.2.2.1.1]; exact hh)), if_pos (by decide), zq_mb2_eq lW8, zq_mb2_eq lM, zq_mb2_eq lM8]
        have hp0 := m3.2.2.2.2.2.1.1
        have hp1 := m3.2.2.2.2.2.2.2
        have hsz := zq_size_le hrow hp0
        have hbud : 2 ≤ c.bc ∧ 2600 ≤ c.bs := by
          obtain ⟨p, q, b, s, rfl, u1, u2⟩ := m1
          have hn : (n : Int) ≤ S0.tp_size / 16 - 1 := by omega
          exact ⟨by show 2 ≤ b; omega, by show 2600 ≤ s; omega⟩
        obtain ⟨c9, f, g, e1, q1, q2⟩ := zq_e_putPoint hi hrow (by omega) hbud.1 hbud.2 c2.1 c2.2.1 (by rw [← hrow.2.2.2.2.1]; exact c2.2.2.1) (v := zq_lnF (zq_bt S) (16 * (n : Int) + 8) 8 (ll 0) 0)
        have hcN : c9.N = c.N := by obtain ⟨p, b, s, rfl, -⟩ := q1; rfl
        have h640 : M.m_points + 1 ≤ 640 := by omega
        rw [zq_mb3_eq e1, if_pos (by rw [hcN]; exact hi), zq_mb2_eq (zq_e_come (M := M) (a := (i : Int)) ⟨by omega, by omega⟩ ⟨hp0, by omega⟩ _ _)]
        have hr : zq_RM c0 S0 p0 (n + 1) c9 (WS.w_st_headSize (zq_ptw S i f g (S.pt_size i + 1) (zq_lnF (zq_bt S) (16 * (n : Int)) 8 (ll 0) 0)) (S.st_headSize + 1)) (zq_mcm M (i : Int) (zq_lnF (zq_bt S) (16 * (n : Int)) 8 (ll 0) 0) (zq_lnF (zq_bt S) (16 * (n : Int) + 8) 8 (ll 0) 0)) :=
          ⟨zq_pcN_up m1 q1, zq_pc_RT q1 m2, zq_RSt_add m3 hi hN q1 q2 h640, m4, ⟨lb, zq_pc_RLb q1 m5, zq_pc_RX q1 m6⟩, m7, m8, by show M.m_points + 1 = p0 + ((n + 1 : Nat) : Int); omega⟩
        obtain ⟨n9, c10, S9, M9, z1, z2, z3, z4⟩ := zq_E_bulk hp hlo hs hbc hbs k (n + 1) c9 _ _ hr (by rw [hcN]; exact hi) (by omega) (by omega)
        refine ⟨n9, c10, S9, M9, ?_, ?_, z3, z4⟩
        · rw [show ((n + 1 : Nat) : Int) = (n : Int) + 1 by omega, show 16 * ((n : Int) + 1) = 16 * (n : Int) + 16 by omega] at z1
          exact z1
        · rw [show ((n + 1 : Nat) : Int) = (n : Int) + 1 by omega] at z2
          exact z2
      · rw [if_neg c2, if_neg c2, if_pos (by decide), if_neg (by decide), e97, e88]
        exact ⟨n, c, S, M, rfl, rfl, hm, h1⟩
set_option maxRecDepth 100000 in
theorem zq_p_bulk : st_bulk zq_RA := by
  intro k c S M a hk h ha
  have lo := zq_RA_lo h hk
  by_cases c1 : 0 ≤ a ∧ a < (c.N : Int)
  · have h' := h
    obtain ⟨h0, h1, h2, h3, ⟨lb, h4, h5⟩, h6, h7⟩ := h'
    have hN := h4.1.1
    have hlt : a.toNat < c.N := by omega
    have ea : ((a.toNat : Nat) : Int) = a := by omega
    have ht := h1.2.1
    have hp0 := h2.2.2.2.2.2.1.1
    have hpC := zq_potC_le h1.2.2.1.2 h6.2.2.1 h6.2.2.2.1.2 h6.2.2.2.2.2
    have hpS := zq_potS_le h1.2.2.1.2 h6.2.2.1 h6.2.2.2.1.2 h6.2.2.2.2.2
    have g1 := h6.1; have g2 := h6.2.1
    obtain ⟨n9, c9, S9, M9, z1, z2, z3, z4⟩ := zq_E_bulk (c0 := c) (S0 := S) (p0 := M.m_points) (by omega) lo.1 lo.2 (by omega) (by omega) (i := a.toNat) fU 0 c S (MS.w_m_code M 0) ⟨⟨c.pc, c.pv, c.bc, c.bs, rfl, by omega, by omega⟩, h1, h2, h3, ⟨lb, h4, h5⟩, rfl, rfl, by show M.m_points = M.m_points + ((0 : Nat) : Int); omega⟩ hlt (by omega) (by show (S.tp_size - 16 * ((0 : Nat) : Int)) / 16 < ((1000000 : Nat) : Int); omega)
    rw [ea] at z2
    refine ⟨0, (n9 : Int), c9, WS.w_tp_size S9 0, (n9 : Int), MS.w_m_length M9 0, M9.m_code, MS.w_m_length M9 0, ?_, ?_, rfl, Or.inl ⟨rfl, by rw [z3.2.2.2.2.2.2.1]; decide, rfl⟩, ?_⟩
    · rw [s_WT_bulk, zq_mb3_eq ((zq_e_existing h hk ha).trans (if_pos c1))]
      show (if a.toNat < c.N then _ else none) = _
      rw [if_pos hlt]
      show (if a.toNat < c.N then _ else none) = _
      rw [if_pos hlt]
      exact z1
    · rw [s_Mo_bulk, zq_mb2_eq ((zq_e_isSeries h ha).trans (if_pos c1)), if_neg (by decide), q_Mo_bulk_14, if_pos (by decide)]
      exact z2
    · obtain ⟨m1, ⟨t1, t2, t3, t4, t5, t6⟩, m3, m4, ⟨lb', m5, m6⟩, m7, m8, m9⟩ := z3
      have hpt : M9.m_points ≤ M.m_points + n9 := by
        have := m9; omega
      refine ⟨hk, ⟨rfl, ⟨Int.le_refl 0, by show (0 : Int) ≤ 10240; omega, by show (0 : Int) ≤ c9.tc; omega⟩, t3, fun j j0 j1 => by have : j < 0 := j1; omega, t5, t6⟩, m3, m4, ⟨lb', m5, m6⟩, ?_, ?_⟩
      · obtain ⟨p, q, b, s, rfl, u1, u2⟩ := m1
        refine ⟨?_, ?_, h6.2.2⟩
        · show 1000 + 100 * (512 - ((k + 1 : Nat) : Int)) + 3 * 0 ≤ (b : Int) + zq_potC c
          omega
        · show 2300000 + 5000 * (512 - ((k + 1 : Nat) : Int)) + 170 * 0 ≤ (s : Int) + zq_potS c
          omega
      · show 16 * M9.m_points + 0 ≤ 20 * ((k + 1 : Nat) : Int)
        omega
  · refine ⟨3, 0, zq_thr c, S, 0, MS.w_m_code M 1, 1, MS.w_m_code M 1, ?_, ?_, rfl, Or.inr ⟨rfl, by decide⟩, zq_RA_thr h hk 1⟩
    · rw [s_WT_bulk, zq_mb3_eq ((zq_e_existing h hk ha).trans (if_neg c1))]; rfl
    · rw [s_Mo_bulk, zq_mb2_eq ((zq_e_isSeries h ha).trans (if_neg c1)), if_pos (by decide), q_Mo_bulk_14, if_neg (by decide)]
set_option maxRecDepth 100000 in
/-- the labels that were read -/
def zq_lbO (T : Int → Int) (ss : List zq_L3) : zq_LB := ss.map (fun l => (zq_sl T l.1 l.2.1, zq_sl T (l.2.1 + 1) l.2.2))
set_option maxRecDepth 100000 in
theorem zq_sl_split {T : Int → Int} {p q r : Int} (h1 : p ≤ q) (h2 : q ≤ r) : zq_sl T p r = zq_sl T p q ++ zq_sl T q r := by
  by_cases c1 : p = q
  · subst c1; rw [zq_sl_nil (Int.le_refl p)]; rfl
  · rw [zq_sl_cons (show p < r by omega), zq_sl_cons (show p < q by omega), List.cons_append, ← zq_sl_split (show p + 1 ≤ q by omega) h2]
termination_by (q - p).toNat
decreasing_by omega
set_option maxRecDepth 100000 in
theorem zq_sl_lab {T : Int → Int} {n : Int} {l : zq_L3} (h : zq_gdL T n l) : zq_sl T l.1 l.2.2 = zq_sl T l.1 l.2.1 ++ 61 :: zq_sl T (l.2.1 + 1) l.2.2 := by
  have h1 := h.1
  rw [zq_sl_split (q := l.2.1) (by omega) (by omega), zq_sl_cons (p := l.2.1) (by omega), h.2.1]
set_option maxRecDepth 100000 in
theorem zq_encT_P {T : Int → Int} {n : Int} : ∀ (ss : List zq_L3), (∀ l ∈ ss, zq_gdL T n l) → zq_encL T ss = zq_encP (zq_lbO T ss) ∧ (ss ≠ [] → zq_encT T ss = 44 :: zq_encP (zq_lbO T ss))
  | [], _ => ⟨rfl, fun h => absurd rfl h⟩
  | [l], h => by
    have e := zq_sl_lab (h l (by simp))
    constructor
    · simp [zq_encL, zq_encT, zq_lbO, zq_encP, e]
    · intro; simp [zq_encT, zq_lbO, zq_encP, e]
  | l :: m :: r, h => by
    have e := zq_sl_lab (h l (by simp))
    have ih := (zq_encT_P (m :: r) (fun x hx => h x (List.mem_cons_of_mem _ hx))).2 (by simp)
    have e3 : zq_encP (zq_lbO T (l :: m :: r)) = zq_sl T l.1 l.2.1 ++ 61 :: (zq_sl T (l.2.1 + 1) l.2.2 ++ 44 :: zq_encP (zq_lbO T (m :: r))) := rfl
    constructor
    · rw [zq_encL, ih, e3, e]; simp
    · intro; rw [zq_encT, ih, e3, e]; simp
set_option maxRecDepth 100000 in
theorem zq_encL_P {T : Int → Int} {n : Int} {ss : List zq_L3} (h : ∀ l ∈ ss, zq_gdL T n l) : zq_encL T ss = zq_encP (zq_lbO T ss) := (zq_encT_P ss h).1
set_option maxRecDepth 100000 in
theorem zq_slF_mem {T : Int → Int} : ∀ {m : Nat} {p x : Int}, x ∈ zq_slF T m p → ∃ i, p ≤ i ∧ i < p + m ∧ x = T i
  | 0, p, x, h => by simp [zq_slF] at h
  | m + 1, p, x, h => by
    rw [zq_slF] at h
    rcases List.mem_cons.mp h with h | h
    · exact ⟨p, by omega, by omega, h⟩
    · obtain ⟨i, i1, i2, i3⟩ := zq_slF_mem h
      exact ⟨i, by omega, by omega, i3⟩
set_option maxRecDepth 100000 in
theorem zq_sl_mem {T : Int → Int} {p q x : Int} (h : x ∈ zq_sl T p q) : ∃ i, p ≤ i ∧ i < q ∧ x = T i := by
  obtain ⟨i, i1, i2, i3⟩ := zq_slF_mem h
  exact ⟨i, i1, by omega, i3⟩
set_option maxRecDepth 100000 in
theorem zq_lbO_ok {T : Int → Int} {n : Int} {ss : List zq_L3} (hs : zq_srtL T ss) (hg : ∀ l ∈ ss, zq_gdL T n l) (h6 : ss.length ≤ 6) : zq_okB (zq_lbO T ss) := by
  refine ⟨by simp [zq_lbO]; exact h6, fun x hx => ?_, ?_⟩
  · obtain ⟨l, hl, rfl⟩ := List.mem_map.mp hx
    have g := hg l hl
    have g1 := g.1
    refine ⟨⟨?_, ?_⟩, ⟨?_, ?_⟩, fun b hb => ?_, fun b hb => ?_⟩
    · show 1 ≤ (zq_sl T l.1 l.2.1).length; rw [zq_sl_len]; omega
    · show (zq_sl T l.1 l.2.1).length ≤ 24; rw [zq_sl_len]; omega
    · show 1 ≤ (zq_sl T (l.2.1 + 1) l.2.2).length; rw [zq_sl_len]; omega
    · show (zq_sl T (l.2.1 + 1) l.2.2).length ≤ 24; rw [zq_sl_len]; omega
    · obtain ⟨i, i1, i2, rfl⟩ := zq_sl_mem hb
      exact g.2.2.1 i i1 i2
    · obtain ⟨i, i1, i2, rfl⟩ := zq_sl_mem hb
      exact g.2.2.2 i (by omega) i2
  · unfold zq_lbO
    rw [List.pairwise_map]
    exact hs
set_option maxRecDepth 100000 in
theorem zq_encP_len1 : ∀ l : zq_LB, l ≠ [] → (∀ x ∈ l, x.1.length ≤ 24 ∧ x.2.length ≤ 24) → (zq_encP l).length + 1 ≤ 50 * l.length
  | [], h0, _ => absurd rfl h0
  | [x], _, h => by have := h x (by simp); simp [zq_encP]; omega
  | x :: y :: r, _, h => by
    have := h x (by simp)
    have ih := zq_encP_len1 (y :: r) (by simp) (fun z hz => h z (List.mem_cons_of_mem _ hz))
    simp only [zq_encP, List.length_append, List.length_cons] at ih ⊢
    omega
set_option maxRecDepth 100000 in
theorem zq_okB_len1 {l : zq_LB} (h : zq_okB l) : (zq_encP l).length ≤ 299 := by
  by_cases c : l = []
  · subst c; simp [zq_encP]
  · have := zq_encP_len1 l c (fun x hx => ⟨(h.2.1 x hx).1.2, (h.2.1 x hx).2.1.2⟩)
    have := h.1
    omega
set_option maxRecDepth 100000 in
theorem zq_encP_byt : ∀ (l : zq_LB), (∀ x ∈ l, (∀ b ∈ x.1, zq_wdB b = true) ∧ (∀ b ∈ x.2, zq_wdB b = true)) → zq_allB (zq_encP l)
  | [], _ => by intro x hx; simp [zq_encP] at hx
  | [x], h => by
    intro b hb
    simp only [zq_encP, List.mem_append, List.mem_cons] at hb
    have := h x (by simp)
    rcases hb with hb | hb | hb
    · exact zq_wdB_byt (this.1 b hb)
    · subst hb; unfold zq_byt; omega
    · exact zq_wdB_byt (this.2 b hb)
  | x :: y :: r, h => by
    intro b hb
    simp only [zq_encP, List.mem_append, List.mem_cons] at hb
    have := h x (by simp)
    rcases hb with hb | hb | hb | hb | hb
    · exact zq_wdB_byt (this.1 b hb)
    · subst hb; unfold zq_byt; omega
    · exact zq_wdB_byt (this.2 b hb)
    · subst hb; unfold zq_byt; omega
    · exact zq_encP_byt (y :: r) (fun z hz => h z (List.mem_cons_of_mem _ hz)) b hb
set_option maxRecDepth 100000 in
theorem zq_okB_byt {l : zq_LB} (h : zq_okB l) : zq_allB (zq_encP l) := zq_encP_byt l (fun x hx => ⟨(h.2.1 x hx).2.2.1, (h.2.1 x hx).2.2.2⟩)
set_option maxRecDepth 100000 in
theorem zq_posP_0 (l : zq_LB) : zq_posP l 0 = 0 := by cases l <;> rfl
set_option maxRecDepth 100000 in
theorem zq_posP_succ : ∀ (l : zq_LB) (k : Nat) (x : List Int × List Int), l[k]? = some x → zq_posP l (k + 1) = zq_posP l k + x.1.length + 1 + x.2.length + 1
  | [], k, x, h => by simp at h
  | y :: r, 0, x, h => by
    simp at h; subst h
    show (y.1.length : Int) + 1 + y.2.length + 1 + zq_posP r 0 = zq_posP (y :: r) 0 + y.1.length + 1 + y.2.length + 1
    rw [zq_posP_0, zq_posP_0]; omega
  | y :: r, k + 1, x, h => by
    rw [List.getElem?_cons_succ] at h
    rw [zq_posP, zq_posP_succ r k x h, zq_posP]; omega
set_option maxRecDepth 100000 in
theorem zq_mkA_pos {T : Int → Int} {n : Int} {ss : List zq_L3} {NA VA : Int → Int} (h : ∀ (i : Nat) (l : zq_L3), ss[i]? = some l → NA i = l.1 ∧ VA i = l.2.2) (hg : ∀ l ∈ ss, zq_gdL T n l) : ∀ k : Nat, k ≤ ss.length → mkA NA VA k = zq_posP (zq_lbO T ss) k
  | 0, _ => by rw [zq_posP_0]; rfl
  | k + 1, hk => by
    have e : ss[k]? = some (ss[k]'(by omega)) := List.getElem?_eq_getElem _
    have := h k _ e
    have g := (hg _ (List.mem_of_getElem? e)).1
    rw [mkA, zq_mkA_pos h hg k (by omega), zq_posP_succ (zq_lbO T ss) k _ (by unfold zq_lbO; rw [List.getElem?_map, e]; rfl), this.1, this.2]
    simp only [zq_sl_len]
    omega
set_option maxRecDepth 100000 in
theorem zq_fnd_R (tx : Nat → List Int) (xs : List Int) : ∀ (m s : Nat), zq_fnd tx xs m s = -1 ∨ ((s : Int) ≤ zq_fnd tx xs m s ∧ zq_fnd tx xs m s < (s : Int) + m)
  | 0, s => Or.inl rfl
  | m + 1, s => by
    rw [zq_fnd]
    split
    · right; omega
    · rcases zq_fnd_R tx xs m (s + 1) with h | h
      · exact Or.inl h
      · right; omega
set_option maxRecDepth 100000 in
theorem zq_aH_wrt {f : Int → Int} {p q : Int} {xs ys : List Int} (h : zq_aH f p xs) (hq : p + xs.length ≤ q) : zq_aH (zq_wrt f q ys) p xs := by
  intro i x hx
  have : i < xs.length := (List.getElem?_eq_some_iff.mp hx).1
  rw [zq_wrt_lo (by omega)]; exact h i x hx
set_option maxRecDepth 100000 in
/-- the labels' text is laid, no series comes -/
theorem zq_RLb_lay {c : CW} {S S9 : WS} {M M9 : MS} {lb : Nat → zq_LB} (h : zq_RLb c S M lb) (hl : ∀ j, zq_byt (S9.lr_letters j)) (e1 : S9.se_letters = S.se_letters) (e2 : S9.se_starts = S.se_starts) (e3 : S9.se_signs = S.se_signs) (e4 : S9.se_ends = S.se_ends) (f1 : M9.m_seriesCount = M.m_seriesCount) (f2 : M9.m_textLengths = M.m_textLengths) {xs : List Int} (f3 : M9.m_texts = M.m_texts ∨ M9.m_texts = zq_wrt M.m_texts (304 * (c.N : Int)) xs) : zq_RLb c S9 M9 lb := by
  obtain ⟨h1, h2, h3⟩ := h
  refine ⟨by rw [f1]; exact h1, hl, fun i hi => ?_⟩
  obtain ⟨q1, q2, q3, q4⟩ := h3 i hi
  have := zq_okB_len q1
  rw [e1, e2, e3, e4, f2]
  refine ⟨q1, q2, ?_, q4⟩
  rcases f3 with f3 | f3
  · rw [f3]; exact q3
  · rw [f3]; exact zq_aH_wrt q3 (by omega)

set_option maxRecDepth 100000 in
/-- what the reference answers to a set of labels -/
theorem zq_e_mread {c : CW} {S : WS} {M : MS} (h : zq_RT c S M) :
    (∀ ss, zq_rdL (zq_bt S) S.tp_size 7 0 [] = .ok ss → zq_srtL (zq_bt S) ss ∧ (∀ l ∈ ss, zq_gdL (zq_bt S) S.tp_size l) ∧ 0 < ss.length ∧ ss.length ≤ 6 ∧ ∃ (f : Int → Int) (n : Int), s_Mo_readLabels (zq_mfs (MS.w_m_code M 0) 0 0) = some (1, zq_mls (zq_mfs (MS.w_m_code M 0) 0 0) f n) ∧ (0 ≤ M.m_seriesCount → M.m_seriesCount ≤ 256 → s_Mo_layText (zq_mls (zq_mfs (MS.w_m_code M 0) 0 0) f n) = some (((zq_encP (zq_lbO (zq_bt S) ss)).length : Int), zq_mtx (zq_mls (zq_mfs (MS.w_m_code M 0) 0 0) f n) (zq_wrt M.m_texts (304 * M.m_seriesCount) (zq_encP (zq_lbO (zq_bt S) ss)))))) ∧
    (∀ q, zq_rdL (zq_bt S) S.tp_size 7 0 [] = .error q → ∃ f m, s_Mo_readLabels (zq_mfs (MS.w_m_code M 0) 0 0) = some (0, zq_mfs (zq_mls (zq_mfs (MS.w_m_code M 0) 0 0) f m) q.1 q.2)) := by
  have e := zq_RT_bt h
  have e0 := h.1
  have hmo := zq_RT_moI h
  have hT : zq_tpT (zq_mby M) M.m_length := zq_mby_T hmo
  have hm := zq_E_readLabels 7 fU 0 (MS.w_m_labelCount (zq_mfs (MS.w_m_code M 0) 0 0) 0) [] hmo rfl rfl (fun i l z => by simp at z) rfl (by simp) (by simp) (by omega) hmo.1 (zq_fU_gt (by omega))
  have he := zq_rd_eq (T := zq_mby M) (n := M.m_length) 7 0 [] [] (List.Perm.refl _) (by simp [zq_srtL])
  rw [e, e0]
  cases hr : zq_rdM (zq_mby M) M.m_length 7 0 [] with
  | error q =>
    have := he.1 q hr
    rw [this]
    refine ⟨fun ss z => (by cases z), fun q' z => ?_⟩
    cases z
    obtain ⟨f, m, a⟩ := hm.2 q hr
    exact ⟨f, m, a⟩
  | ok ls =>
    obtain ⟨ss, s1, s2⟩ := he.2 ls hr
    rw [s1]
    refine ⟨fun ss' z => ?_, fun q z => (by cases z)⟩
    cases z
    obtain ⟨r1, r2, r3, r4⟩ := zq_rdL_ok hT 7 0 [] ss (by omega) hmo.1 (by simp [zq_srtL]) (by simp) s1
    obtain ⟨f, f1, f2⟩ := hm.1 ls hr
    refine ⟨r1, r2, r3, r4, f, ls.length, f2, fun n0 n1 => ?_⟩
    have l6 : ls.length ≤ 6 := by rw [← s2.length_eq]; exact r4
    have lay := zq_E_lay (M := zq_mls (zq_mfs (MS.w_m_code M 0) 0 0) f ls.length) hmo ss ls s2 r1 rfl f1 l6 (fun l hl => r2 l (s2.mem_iff.mpr hl)) M.m_texts (to := 304 * M.m_seriesCount) (by omega) fU 0 ss [] (by simp) (by omega) (zq_fU_gt (by omega)) (Or.inl ⟨rfl, rfl⟩)
    rw [if_pos rfl, List.nil_append, zq_wrt_nil] at lay
    rw [← zq_encL_P r2]
    exact lay
set_option maxRecDepth 100000 in
theorem zq_rowI_new {c : CW} {M : MS} (hx : ∀ x ∈ zq_mpts M, 0 ≤ x.1 ∧ x.1 < (c.N : Int) ∧ (x.2.2.2 = 0 ∨ x.2.2.2 = 1)) : zq_serP (c.N : Int) (zq_mpts M) = [] := by
  unfold zq_serP
  rw [List.map_eq_nil_iff, List.filter_eq_nil_iff]
  intro x h
  have := hx x h
  simp; omega
set_option maxRecDepth 100000 in
theorem zq_p_series : st_series zq_RA := by
  intro k c S M hk h
  have lo := zq_RA_lo h hk
  have h' := h
  obtain ⟨h0, hT, h2, h3, ⟨lb, h4, h5⟩, h6, h7⟩ := h
  have t1 := hT.1; have t2 := hT.2.1; have t3 := hT.2.2.1
  have R := zq_e_read (c := c) (zq_RT_tpI hT) h4.2.1
  have Q := zq_e_mread hT
  have n1 := h4.1.1; have n2 := h4.1.2
  have hpp := h2.2.2.2.2.2.1.1
  have fin : ∀ (c : CW) (v : Int) (S22 : WS), s_WT_series = s_WT_series → 0 ≤ S22.tp_size → S22.tp_size ≤ 10240 → q_WT_series_73 c v S22 = some ((0, v), c, WS.w_tp_size (WS.w_wt_faultPlace (WS.w_wt_faultCode S22 S22.lr_faultCode) S22.lr_faultPlace) 0) := by
    intro c v S22 _ a b
    rw [q_WT_series_73, s_LR_faultCode]
    refine Eq.trans (show _ = mb2 (s_Tp_keep c (WS.w_wt_faultPlace (WS.w_wt_faultCode S22 S22.lr_faultCode) S22.lr_faultPlace) 0) (fun r21 S21 => some ((0, v), c, S21)) from rfl) ?_
    rw [s_Tp_keep, if_neg (by decide)]
    show mb2 (if w32 S22.tp_size ≤ w32 0 then _ else _) _ = _
    rw [zq_w32i (z := S22.tp_size) (by omega) (by omega), show w32 0 = 0 by decide]
    by_cases z : S22.tp_size ≤ 0
    · rw [if_pos z]
      have : S22.tp_size = 0 := by omega
      show some ((0, v), c, WS.w_wt_faultPlace (WS.w_wt_faultCode S22 S22.lr_faultCode) S22.lr_faultPlace) = _
      congr 3
      show _ = WS.w_tp_size (WS.w_wt_faultPlace (WS.w_wt_faultCode S22 S22.lr_faultCode) S22.lr_faultPlace) 0
      rw [← this]
    · rw [if_neg z]; rfl
  cases hr : zq_rdL (zq_bt S) S.tp_size 7 0 [] with
  | error q =>
    obtain ⟨f, g, e, m, a1⟩ := R.2 q hr
    obtain ⟨f', m', b1⟩ := Q.2 q hr
    refine ⟨0, -1, c, WS.w_tp_size (WS.w_wt_faultPlace (WS.w_wt_faultCode (zq_lrf (zq_lrs S f g e m) q.1 q.2) q.1) q.2) 0, -1, MS.w_m_length (zq_mfs (zq_mls (zq_mfs (MS.w_m_code M 0) 0 0) f' m') q.1 q.2) 0, 0, _, ?_, ?_, rfl, Or.inl ⟨rfl, by decide, rfl⟩, ?_⟩
    · rw [s_WT_series, zq_mb2_eq a1, if_pos (by decide), fin c (-1) _ rfl (by show 0 ≤ S.tp_size; omega) (by show S.tp_size ≤ 10240; omega)]; rfl
    · rw [s_Mo_series]
      refine (zq_mb2_eq b1).trans ?_
      rw [if_pos (by decide)]
    · refine ⟨hk, ⟨rfl, ⟨by show (0 : Int) ≤ 0; omega, by show (0 : Int) ≤ 10240; omega, by show (0 : Int) ≤ c.tc; omega⟩, t3, fun j j0 j1 => ?_, hT.2.2.2.2⟩, h2, ⟨⟨rfl, rfl⟩, h3.2⟩, ⟨lb, zq_RLb_lay (xs := []) h4 h4.2.1 rfl rfl rfl rfl rfl rfl (Or.inl rfl), h5⟩, zq_gdB_up (S := S) h6 (by show (0 : Int) ≤ S.tp_size; omega), by show 16 * M.m_points + 0 ≤ _; omega⟩
      have : j < 0 := j1
      omega
  | ok ss =>
    obtain ⟨f, g, e, lt, a1, a2, a3, a4⟩ := R.1 ss hr
    obtain ⟨r1, r2, r3, r4, f', m', b1, b2⟩ := Q.1 ss hr
    have b3 := b2 (by omega) (by omega)
    have okl := zq_lbO_ok r1 r2 r4
    rw [zq_encL_P r2] at a1 a3 a4
    generalize hS : zq_lrf (zq_lts (zq_lrs S f g e ss.length) lt (zq_encP (zq_lbO (zq_bt S) ss)).length) 0 0 = S2 at a1
    generalize hxs : zq_encP (zq_lbO (zq_bt S) ss) = xs at *
    have hx299 : xs.length ≤ 299 := by rw [← hxs]; exact zq_okB_len1 okl
    have hxb : zq_allB xs := by rw [← hxs]; exact zq_okB_byt okl
    generalize hM : zq_mtx (zq_mls (zq_mfs (MS.w_m_code M 0) 0 0) f' m') (zq_wrt M.m_texts (304 * M.m_seriesCount) xs) = M2 at b3
    have hfw : zq_txW c S2 (fun i => zq_encP (lb i)) := ⟨n1, fun i hi => by
      obtain ⟨q1, q2, q3⟩ := h4.2.2 i hi
      rw [← hS]
      exact ⟨q2.1, q2.2.1, zq_okB_byt q1, zq_okB_len q1⟩⟩
    have hfm : zq_txM c.N M2 (fun i => zq_encP (lb i)) := ⟨n1, by rw [← hM]; exact n2.symm, fun i hi => by
      obtain ⟨q1, q2, q3, q4⟩ := h4.2.2 i hi
      have := zq_okB_len q1
      rw [← hM]
      refine ⟨?_, q4, zq_okB_byt q1, zq_okB_len q1⟩
      show zq_aH (zq_wrt M.m_texts (304 * M.m_seriesCount) xs) _ _
      exact zq_aH_wrt q3 (by show 304 * (i : Int) + ((zq_encP (lb i)).length : Int) ≤ _; omega)⟩
    have fw := zq_e_numberOf (c := c) (S := S2) (xs := xs) (by rw [← hS]; exact a3.1) (by rw [← hS]; rfl) hxb (by omega) hfw
    have fm := zq_e_mFind (M := M2) hfm (xs := xs) (by rw [← hM, n2]; exact zq_wrt_at _ _ _) hxb (by omega)
    have e1 : s_WT_series c S = if w32 (zq_fnd (fun i => zq_encP (lb i)) xs c.N 0) = (-1) then mb2 (s_St_isFull c S2) (fun r26 S26 => if w32 r26 = 0 then q_WT_series_53 c (zq_fnd (fun i => zq_encP (lb i)) xs c.N 0) S26 else if 1 ≤ c.bc ∧ 6 ≤ c.bs then some ((1, 0), (CW.w_bs (CW.w_bc c (c.bc - 1)) (c.bs - 6)), S26) else none) else q_WT_series_53 c (zq_fnd (fun i => zq_encP (lb i)) xs c.N 0) S2 := by
      rw [s_WT_series, zq_mb2_eq a1, if_neg (by decide), zq_mb2_eq fw]
    have e2 : s_Mo_series M = if w32 (zq_fnd (fun i => zq_encP (lb i)) xs c.N 0) = (-1) then if w32 M2.m_seriesCount = 256 then some (0, MS.w_m_faultPlace (MS.w_m_faultCode (MS.w_m_code M2 1) M.m_faultCode) M.m_faultPlace) else q_Mo_series_84 xs.length (zq_fnd (fun i => zq_encP (lb i)) xs c.N 0) M2 else q_Mo_series_84 xs.length (zq_fnd (fun i => zq_encP (lb i)) xs c.N 0) M2 := by
      rw [s_Mo_series]
      refine (zq_mb2_eq b1).trans ?_
      rw [if_neg (by decide)]
      refine (zq_mb2_eq b3).trans ?_
      exact zq_mb2_eq fm
    have hz := zq_fnd_R (fun i => zq_encP (lb i)) xs c.N 0
    generalize hfn : zq_fnd (fun i => zq_encP (lb i)) xs c.N 0 = z at e1 e2 hz
    rw [zq_w32i (z := z) (by omega) (by omega)] at e1 e2
    have lay : ∀ S9 M9, S9.se_letters = S.se_letters → S9.se_starts = S.se_starts → S9.se_signs = S.se_signs → S9.se_ends = S.se_ends → S9.lr_letters = lt → M9.m_seriesCount = M.m_seriesCount → M9.m_textLengths = M.m_textLengths → M9.m_texts = M2.m_texts → zq_RLb c S9 M9 lb := by
      intro S9 M9 x1 x2 x3 x4 x5 y1 y2 y3
      refine zq_RLb_lay (xs := xs) h4 (by rw [x5]; exact a3.2) x1 x2 x3 x4 y1 y2 (Or.inr ?_)
      rw [y3, ← hM, n2]; rfl
    have sz : S2.tp_size = S.tp_size := by rw [← hS]; rfl
    by_cases c1 : z = -1
    · rw [if_pos c1] at e1 e2
      by_cases c2 : c.N = 256
      · -- full
        refine ⟨1, 0, zq_thr c, S2, 0, MS.w_m_faultPlace (MS.w_m_faultCode (MS.w_m_code M2 1) M.m_faultCode) M.m_faultPlace, 1, _, ?_, ?_, rfl, Or.inr ⟨rfl, by decide⟩, ?_⟩
        · rw [e1]
          refine (zq_mb2_eq (show s_St_isFull c S2 = some (1, S2) by rw [s_St_isFull, if_neg (by rw [c2]; decide)])).trans ?_
          rw [if_neg (by decide), if_pos (by omega)]; rfl
        · rw [e2, if_pos (by rw [← hM]; show w32 M.m_seriesCount = 256; rw [← n2, c2]; decide)]
        · have key : zq_RA (k + 1) (zq_thr c) (zq_lrf (zq_lts (zq_lrs S f g e ss.length) lt xs.length) 0 0) (MS.w_m_faultPlace (MS.w_m_faultCode (MS.w_m_code M2 1) M.m_faultCode) M.m_faultPlace) := by
            rw [← hM]
            refine ⟨hk, hT, h2, h3, ⟨lb, ?_, h5⟩, zq_gdB_thr (S := S) h6 hT.2.2.1.2 hT.2.1.1 hk, by show 16 * M.m_points + S.tp_size ≤ _; omega⟩
            exact lay _ _ rfl rfl rfl rfl rfl rfl rfl (by rw [← hM])
          rw [hS] at key
          exact key
      · -- a new series
        have hlab : S2.lr_labels = (ss.length : Int) := by rw [← hS]; rfl
        have hlen : S2.lr_length = (xs.length : Int) := by rw [← hS]; rfl
        have hlet : S2.lr_letters = lt := by rw [← hS]; rfl
        have hmk : mkH c S2 := ⟨⟨by rw [hlab]; omega, by rw [hlen]; omega, by rw [hlet]; exact zq_bChk_of a3.2 300⟩, by omega, by omega, by rw [hlab, hlen]; omega⟩
        have e3 : s_WT_series c S = q_WT_series_73 (mkC c S2) (c.N : Int) (mkW c S2) := by
          rw [e1]
          refine (zq_mb2_eq (show s_St_isFull c S2 = some (0, S2) by rw [s_St_isFull, zq_w32i (z := (c.N : Int)) (by omega) (by omega), if_pos (by omega)])).trans ?_
          rw [if_pos (by decide), q_WT_series_53, zq_w32i (z := z) (by omega) (by omega), if_pos c1, if_pos hmk]
        have sc2 : M2.m_seriesCount = (c.N : Int) := by rw [← hM]; exact n2.symm
        have e4 : s_Mo_series M = q_Mo_series_124 (c.N : Int) (MS.w_m_seriesCount (MS.w_m_lasts (MS.w_m_textLengths M2 (aU M2.m_textLengths (c.N : Int) xs.length)) (aU M2.m_lasts (c.N : Int) (ll (-1)))) ((c.N : Int) + 1)) := by
          rw [e2, sc2, zq_w32i (z := (c.N : Int)) (by omega) (by omega), if_neg (by omega), q_Mo_series_84, zq_w32i (z := z) (by omega) (by omega), if_pos c1, sc2, if_pos (show (0 : Int) ≤ (c.N : Int) ∧ (c.N : Int) < 256 by omega), if_pos (show (0 : Int) ≤ (c.N : Int) ∧ (c.N : Int) < 256 by omega)]
        refine ⟨0, (c.N : Int), mkC c S2, WS.w_tp_size (WS.w_wt_faultPlace (WS.w_wt_faultCode (mkW c S2) 0) 0) 0, (c.N : Int), MS.w_m_length (MS.w_m_seriesCount (MS.w_m_lasts (MS.w_m_textLengths M2 (aU M2.m_textLengths (c.N : Int) xs.length)) (aU M2.m_lasts (c.N : Int) (ll (-1)))) ((c.N : Int) + 1)) 0, 0, MS.w_m_length (MS.w_m_seriesCount (MS.w_m_lasts (MS.w_m_textLengths M2 (aU M2.m_textLengths (c.N : Int) xs.length)) (aU M2.m_lasts (c.N : Int) (ll (-1)))) ((c.N : Int) + 1)) 0, ?_, e4, ?_, Or.inl ⟨rfl, by decide, rfl⟩, ?_⟩
        · rw [e3, fin _ _ _ rfl (by show 0 ≤ S2.tp_size; omega) (by show S2.tp_size ≤ 10240; omega)]
          rw [← hS]; rfl
        · rw [← hM]; rfl
        · rw [← hS, ← hM]
          refine ⟨hk, ⟨rfl, ⟨by show (0 : Int) ≤ 0; omega, by show (0 : Int) ≤ 10240; omega, by show (0 : Int) ≤ c.tc; omega⟩, t3, fun j j0 j1 => ?_, hT.2.2.2.2⟩, ?_, ⟨⟨rfl, rfl⟩, h3.2⟩, ⟨fun i => if i = c.N then zq_lbO (zq_bt S) ss else lb i, ?_, ?_⟩, ?_, by show 16 * M.m_points + 0 ≤ _; omega⟩
          · have : j < 0 := j1
            omega
          · -- points
            obtain ⟨p1, p2, p3, p4, p5, p6, p7, p8⟩ := h2
            refine ⟨fun i hi => ?_, p2, p3, p4, p5, p6, fun x hx => ?_, p8⟩
            · have hi' : i < c.N + 1 := hi
              by_cases z : i = c.N
              · subst z
                have enew := zq_rowI_new p7
                refine ⟨⟨⟨?_, ?_, ?_, ?_, ?_⟩, ?_, ?_, ?_⟩, ?_, ?_, ?_, ?_, ?_⟩
                · show 0 ≤ nU S.pt_packed c.N 0 c.N; rw [nU_at]; omega
                · show nU S.pt_packed c.N 0 c.N ≤ nU S.pt_size c.N 0 c.N; rw [nU_at, nU_at]; omega
                · show nU S.pt_size c.N 0 c.N ≤ nU c.pc c.N 0 c.N; rw [nU_at, nU_at]; omega
                · show nU S.pt_size c.N 0 c.N ≤ nU c.pv c.N 0 c.N; rw [nU_at, nU_at]; omega
                · show nU S.pt_size c.N 0 c.N ≤ 8192; rw [nU_at]; omega
                · intro a b _ _ hb
                  have hb : b < nU S.pt_size c.N 0 c.N := hb
                  rw [nU_at] at hb; omega
                · show nU c.pc c.N 0 c.N ≤ 100000; rw [nU_at]; omega
                · show nU c.pv c.N 0 c.N ≤ 100000; rw [nU_at]; omega
                · show nU c.pc c.N 0 c.N = nU c.pv c.N 0 c.N; rw [nU_at, nU_at]
                · intro b _ hb
                  have hb : b < nU S.pt_size c.N 0 c.N := hb
                  rw [nU_at] at hb; omega
                · refine Eq.trans ?_ enew.symm
                  unfold zq_cpts
                  show zq_gsl _ (nU S.pt_size c.N 0 c.N).toNat 0 = []
                  rw [nU_at]; rfl
                · show nU S.pt_lastTime c.N (ll (-1)) c.N = aU M.m_lasts (c.N : Int) (ll (-1)) (c.N : Int)
                  rw [nU_at, zq_aU_at]
                · show (nU S.pt_lastTime c.N (ll (-1)) c.N).toInt ≤ _
                  rw [nU_at]; decide
              · have := zq_row_same (c9 := mkC c (zq_lrf (zq_lts (zq_lrs S f g e ss.length) lt xs.length) 0 0)) (S9 := mkW c (zq_lrf (zq_lts (zq_lrs S f g e ss.length) lt xs.length) 0 0)) (p1 i (by omega)) (nU_ne _ _ _ _ z) (nU_ne _ _ _ _ z) (nU_ne _ _ _ _ z) (nU_ne _ _ _ _ z) (nU_ne _ _ _ _ z) (nU_ne _ _ _ _ z) (nU_ne _ _ _ _ z)
                have el : aU M.m_lasts (c.N : Int) (ll (-1)) (i : Int) = M.m_lasts (i : Int) := zq_aU_ne _ _ _ _ (by omega)
                rw [← el] at this
                exact this
            · have := p7 x hx
              exact ⟨this.1, by show x.1 < ((c.N + 1 : Nat) : Int); omega, this.2.2⟩
          · -- labels
            refine ⟨⟨by show c.N + 1 ≤ 256; omega, by show ((c.N + 1 : Nat) : Int) = (c.N : Int) + 1; omega⟩, a3.2, fun i hi => ?_⟩
            have hi' : i < c.N + 1 := hi
            by_cases z : i = c.N
            · subst z
              have el : (fun i => if i = c.N then zq_lbO (zq_bt S) ss else lb i) c.N = zq_lbO (zq_bt S) ss := if_pos rfl
              rw [el, hxs]
              refine ⟨okl, ⟨?_, ?_, ?_, fun j x hx => ?_⟩, ?_, ?_⟩
              · show zq_aH (nU S.se_letters c.N (aK lt 0 300 xs.length) c.N) 0 xs
                rw [nU_at]
                intro i x hx
                have : i < xs.length := (List.getElem?_eq_some_iff.mp hx).1
                unfold aK
                rw [if_pos (by omega)]
                exact a3.1 i x hx
              · show nU c.ln c.N (xs.length : Int) c.N = _
                rw [nU_at]
              · show nU c.lm c.N (ss.length : Int) c.N = _
                rw [nU_at]; simp [zq_lbO]
              · have hj : j < ss.length := by
                  have := (List.getElem?_eq_some_iff.mp hx).1
                  simpa [zq_lbO] using this
                have e0 : ss[j]? = some (ss[j]'hj) := List.getElem?_eq_getElem _
                have ex : x = (zq_sl (zq_bt S) (ss[j]'hj).1 (ss[j]'hj).2.1, zq_sl (zq_bt S) ((ss[j]'hj).2.1 + 1) (ss[j]'hj).2.2) := by
                  unfold zq_lbO at hx
                  rw [List.getElem?_map, e0] at hx
                  exact (Option.some.inj hx).symm
                have em := zq_mkA_pos (T := zq_bt S) (n := S.tp_size) (ss := ss) (NA := f) (VA := e) (fun i l hl => ⟨(a2.2 i l hl).1, (a2.2 i l hl).2.2⟩) r2 j (by omega)
                have ea := a2.2 j _ e0
                have gg := (r2 _ (List.mem_of_getElem? e0)).1
                have q1 : f (j : Int) = (ss[j]'hj).1 := ea.1
                have q2 : g (j : Int) = (ss[j]'hj).2.1 := ea.2.1
                have q3 : e (j : Int) = (ss[j]'hj).2.2 := ea.2.2
                refine ⟨?_, ?_, ?_⟩
                · show nU S.se_starts c.N (mkS (mkA f e) (ss.length : Int)) c.N (j : Int) = _
                  rw [nU_at, mkS, if_pos (by omega)]
                  exact em
                · show nU S.se_signs c.N (mkS (fun k => mkA f e k + g k - f k) (ss.length : Int)) c.N (j : Int) = _
                  rw [nU_at, mkS, if_pos (by omega)]
                  show mkA f e j + g (j : Int) - f (j : Int) = _
                  rw [em, ex, q1, q2]
                  simp only [zq_sl_len]; omega
                · show nU S.se_ends c.N (mkS (mkE f e) (ss.length : Int)) c.N (j : Int) = _
                  rw [nU_at, mkS, if_pos (by omega)]
                  show mkA f e j + e (j : Int) - f (j : Int) = _
                  rw [em, ex, q1, q3]
                  simp only [zq_sl_len]; omega
              · show zq_aH (zq_wrt M.m_texts (304 * M.m_seriesCount) xs) (304 * (c.N : Int)) xs
                rw [← n2]; exact zq_wrt_at _ _ _
              · show aU M.m_textLengths (c.N : Int) (xs.length : Int) (c.N : Int) = _
                rw [zq_aU_at]
            · have el : (fun i => if i = c.N then zq_lbO (zq_bt S) ss else lb i) i = lb i := if_neg z
              rw [el]
              obtain ⟨q1, ⟨q2, q3, q4, q5⟩, q6, q7⟩ := h4.2.2 i (by omega)
              have := zq_okB_len q1
              refine ⟨q1, ⟨?_, ?_, ?_, fun j x hx => ?_⟩, ?_, ?_⟩
              · show zq_aH (nU S.se_letters c.N _ i) 0 _
                rw [nU_ne _ _ _ _ z]; exact q2
              · show nU c.ln c.N _ i = _
                rw [nU_ne _ _ _ _ z]; exact q3
              · show nU c.lm c.N _ i = _
                rw [nU_ne _ _ _ _ z]; exact q4
              · have := q5 j x hx
                refine ⟨?_, ?_, ?_⟩
                · show nU S.se_starts c.N _ i (j : Int) = _
                  rw [nU_ne _ _ _ _ z]; exact this.1
                · show nU S.se_signs c.N _ i (j : Int) = _
                  rw [nU_ne _ _ _ _ z]; exact this.2.1
                · show nU S.se_ends c.N _ i (j : Int) = _
                  rw [nU_ne _ _ _ _ z]; exact this.2.2
              · show zq_aH (zq_wrt M.m_texts (304 * M.m_seriesCount) xs) (304 * (i : Int)) _
                exact zq_aH_wrt q6 (by omega)
              · show aU M.m_textLengths (c.N : Int) (xs.length : Int) (i : Int) = _
                rw [zq_aU_ne _ _ _ _ (by omega)]; exact q7
          · -- the table
            rcases h5 with h5 | ⟨x1, x2, x3, x4, x5, x6, x7⟩
            · exact Or.inl h5
            · refine Or.inr ⟨x1, x2, x3, x4, x5, x6, fun r n r0 r1 n0 n1 => ?_⟩
              obtain ⟨i, kk, v, y1, y2, y3, y4, y5, y6⟩ := x7 r n r0 r1 n0 n1
              refine ⟨i, kk, v, y1, by show i < c.N + 1; omega, y3, ?_, y5, y6⟩
              show zq_lbK (if i = c.N then zq_lbO (zq_bt S) ss else lb i) kk v
              rw [if_neg (by omega)]; exact y4
          · -- room
            obtain ⟨g1, g2, g3, g4, g5⟩ := h6
            refine ⟨?_, ?_, g3, g4, g5⟩
            · show 1000 + 100 * (512 - ((k + 1 : Nat) : Int)) + 3 * 0 ≤ ((c.bc - 8 : Nat) : Int) + zq_potC c
              omega
            · show 2300000 + 5000 * (512 - ((k + 1 : Nat) : Int)) + 170 * 0 ≤ ((c.bs - ((ss.length : Int).toNat + (ss.length : Int).toNat + (ss.length : Int).toNat + 5 + (xs.length : Int).toNat + 5) : Nat) : Int) + zq_potS c
              omega
    · rw [if_neg c1] at e1 e2
      refine ⟨0, z, c, WS.w_tp_size (WS.w_wt_faultPlace (WS.w_wt_faultCode S2 0) 0) 0, z, MS.w_m_length M2 0, 0, MS.w_m_length M2 0, ?_, ?_, ?_, Or.inl ⟨rfl, by decide, rfl⟩, ?_⟩
      · rw [e1, q_WT_series_53, zq_w32i (z := z) (by omega) (by omega), if_neg c1, fin _ _ _ rfl (by rw [sz]; omega) (by rw [sz]; omega)]
        rw [← hS]; rfl
      · rw [e2, q_Mo_series_84, zq_w32i (z := z) (by omega) (by omega), if_neg c1]; rfl
      · rw [← hM]; rfl
      · have key : zq_RA (k + 1) c (WS.w_tp_size (WS.w_wt_faultPlace (WS.w_wt_faultCode (zq_lrf (zq_lts (zq_lrs S f g e ss.length) lt xs.length) 0 0) 0) 0) 0) (MS.w_m_length M2 0) := by
          rw [← hM]
          refine ⟨hk, ⟨rfl, ⟨by show (0 : Int) ≤ 0; omega, by show (0 : Int) ≤ 10240; omega, by show (0 : Int) ≤ c.tc; omega⟩, t3, fun j j0 j1 => ?_, hT.2.2.2.2⟩, h2, ⟨⟨rfl, rfl⟩, h3.2⟩, ⟨lb, lay _ _ rfl rfl rfl rfl rfl rfl rfl (by rw [← hM]), h5⟩, zq_gdB_up (S := S) h6 (by show (0 : Int) ≤ S.tp_size; omega), by show 16 * M.m_points + 0 ≤ _; omega⟩
          have : j < 0 := j1
          omega
        rw [hS] at key
        exact key
set_option maxRecDepth 100000 in
theorem zq_p_start : zq_RA 0 C0w W0 M0 := by
  refine ⟨by omega, ⟨rfl, ⟨by decide, by decide, by decide⟩, ⟨by decide, by decide⟩, fun j j0 j1 => rfl, fun j => ⟨by show (-128 : Int) ≤ 0; omega, by show (0 : Int) ≤ 127; omega⟩, fun j => ⟨by show (-128 : Int) ≤ 0; omega, by show (0 : Int) ≤ 127; omega⟩⟩, ⟨fun i hi => absurd hi (by show ¬ i < 0; omega), ⟨rfl, by decide, by decide⟩, ⟨rfl, rfl⟩, ⟨rfl, by decide, by decide⟩, ⟨rfl, by decide, by decide⟩, ⟨by decide, by decide, fun p p0 p1 => ?_⟩, fun x hx => ?_, by decide⟩, ⟨⟨rfl, rfl⟩, ⟨fun j j0 j1 => ?_, fun i j i0 i1 j0 j1 e => ?_⟩, rfl⟩, ⟨fun _ => [], ⟨⟨by decide, rfl⟩, fun j => ⟨by show (-128 : Int) ≤ 0; omega, by show (0 : Int) ≤ 127; omega⟩, fun i hi => absurd hi (by show ¬ i < 0; omega)⟩, Or.inl ⟨rfl, rfl⟩⟩, ⟨?_, ?_, fun j hj => ⟨by show (0 : Int) ≤ 0; omega, by show (0 : Int) ≤ 16384; omega, rfl⟩, ⟨by decide, by decide⟩, ⟨by decide, by decide⟩⟩, by decide⟩
  · have : p < 0 := p1
    omega
  · have e : zq_mpts M0 = [] := rfl
    rw [e] at hx; cases hx
  · show j.toNat < 19; omega
  · have : i.toNat = j.toNat := e
    omega
  · have e : zq_potC C0w = 19 := by decide
    rw [e]; show 1000 + 100 * (512 - ((0 : Nat) : Int)) + 3 * 0 ≤ ((600915 : Nat) : Int) + 19; omega
  · have e : zq_potS C0w = 1536 := by decide
    rw [e]; show 2300000 + 5000 * (512 - ((0 : Nat) : Int)) + 170 * 0 ≤ ((6346637 : Nat) : Int) + 1536; omega
