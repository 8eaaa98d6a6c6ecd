/-! the orders of a question that was read -/
set_option maxRecDepth 100000 in
def zq_OW (n : Int) (o : zq_Od) : Prop := (∃ x : Int64, o = ((302 : Int), x, 0, 0, [], [])) ∨ (∃ kd q0 ns ms, o = ((310 : Int), ll 0, kd, q0, ns, ms) ∧ (1 ≤ kd ∧ kd ≤ 7) ∧ zq_okN n ns ∧ ∀ m ∈ ms, zq_okM n m) ∨ o = ((311 : Int), ll 0, 0, 0, [], []) ∨ ∃ g zq_pl, zq_bsg g ∧ 0 ≤ zq_pl ∧ o = (g, ll 0, zq_pl, 0, [], [])
set_option maxRecDepth 100000 in
def zq_hrun : List zq_Od → Nat → Option Nat
  | [], h => some h
  | o :: r, h => if o.1 = 302 ∨ o.1 = 310 then (if h ≤ 18 then zq_hrun r (h + 1) else none) else if o.1 = 311 then (if 1 ≤ h then zq_hrun r h else none) else if 2 ≤ h then zq_hrun r (h - 1) else none
set_option maxRecDepth 100000 in
theorem zq_hrun_app : ∀ (a b : List zq_Od) (h : Nat), zq_hrun (a ++ b) h = (zq_hrun a h).bind (zq_hrun b)
  | [], b, h => rfl
  | o :: r, b, h => by
    rw [List.cons_append, zq_hrun, zq_hrun]
    by_cases c1 : o.1 = 302 ∨ o.1 = 310
    · rw [if_pos c1, if_pos c1]
      by_cases c2 : h ≤ 18
      · rw [if_pos c2, if_pos c2]; exact zq_hrun_app r b (h + 1)
      · rw [if_neg c2, if_neg c2]; rfl
    · rw [if_neg c1, if_neg c1]
      by_cases c3 : o.1 = 311
      · rw [if_pos c3, if_pos c3]
        by_cases c2 : 1 ≤ h
        · rw [if_pos c2, if_pos c2]; exact zq_hrun_app r b h
        · rw [if_neg c2, if_neg c2]; rfl
      · rw [if_neg c3, if_neg c3]
        by_cases c2 : 2 ≤ h
        · rw [if_pos c2, if_pos c2]; exact zq_hrun_app r b (h - 1)
        · rw [if_neg c2, if_neg c2]; rfl
section
variable {T : Int → Int} {n : Int}
set_option maxRecDepth 100000 in
theorem zq_pbd_inv {α β : Type} {x : zq_PR α} {f : α → zq_PR β} {y : β} (h : zq_pbd x f = .ok y) : ∃ a, x = .ok a ∧ f a = .ok y := by
  cases x with
  | error e => cases h
  | ok a => exact ⟨a, rfl, h⟩
set_option maxRecDepth 100000 in
theorem zq_pTake_k {v p q : Int} (h : zq_pTake T n v p = .ok q) : zq_tK T n p = v ∧ zq_pAdv T n p = .ok q := by
  unfold zq_pTake at h
  by_cases c : zq_tK T n p = v
  · rw [if_pos c] at h; exact ⟨c, h⟩
  · rw [if_neg c] at h; cases h
set_option maxRecDepth 100000 in
theorem zq_nm_ok (hT : zq_tpT T n) {p : Int} (hp : (0 ≤ p ∧ p ≤ n) ∧ zq_tK T n p ≠ 300) (hk : zq_tK T n p ≠ 301) : 0 ≤ zq_tA T n p ∧ zq_tA T n p + 1 ≤ zq_tB T n p ∧ zq_tB T n p ≤ n := by
  have R := zq_tok_R hT hp.1.1 hp.1.2
  have := R.2.1 hk
  have := zq_tA_ge T n p
  have := (R.2.1 hk).2.2 hp.2
  omega
set_option maxRecDepth 100000 in
theorem zq_pNames_ok (hT : zq_tpT T n) : ∀ (m : Nat) (ns : List zq_NM) (p : Int) (y : Int × List zq_NM), (0 ≤ p ∧ p ≤ n) ∧ zq_tK T n p ≠ 300 → zq_okN n ns → zq_pNames T n m ns p = .ok y → zq_okN n y.2
  | 0, ns, p, y, hp, ho, h => by rw [zq_pNames] at h; cases h; exact ho
  | m + 1, ns, p, y, hp, ho, h => by
    rw [zq_pNames] at h
    by_cases c1 : zq_tK T n p = 303
    · rw [if_pos c1] at h
      by_cases c2 : 6 ≤ ns.length ∨ (ns.any (fun x => zq_nmx T x == zq_nmx T (zq_tA T n p, zq_tB T n p - zq_tA T n p))) = true
      · rw [if_pos c2] at h; cases h
      · rw [if_neg c2] at h
        have R := zq_nm_ok hT hp (by omega)
        have ho' : zq_okN n (ns ++ [(zq_tA T n p, zq_tB T n p - zq_tA T n p)]) := by
          refine ⟨fun x hx => ?_, ?_⟩
          · rcases List.mem_append.mp hx with z | z
            · exact ho.1 x z
            · simp at z; subst z; exact ⟨by show 0 ≤ zq_tA T n p; omega, by show 0 ≤ zq_tB T n p - zq_tA T n p; omega, by show zq_tA T n p + (zq_tB T n p - zq_tA T n p) ≤ n; omega⟩
          · have : ¬ 6 ≤ ns.length := fun z => c2 (Or.inl z)
            simp; omega
        obtain ⟨q, h1, h2⟩ := zq_pbd_inv h
        have hq := zq_pAdv_ge hT hp h1
        by_cases c3 : zq_tK T n q = 44
        · rw [if_pos c3] at h2
          obtain ⟨q2, h3, h4⟩ := zq_pbd_inv h2
          have hq2 := zq_pAdv_ge hT ⟨hq.1, hq.2.1⟩ h3
          exact zq_pNames_ok hT m _ q2 y ⟨hq2.1, hq2.2.1⟩ ho' h4
        · rw [if_neg c3] at h2; cases h2; exact ho'
    · rw [if_neg c1] at h; cases h
set_option maxRecDepth 100000 in
theorem zq_pMatch_ok (hT : zq_tpT T n) {p : Int} {y : Int × zq_MT} (hp : (0 ≤ p ∧ p ≤ n) ∧ zq_tK T n p ≠ 300) (h : zq_pMatch T n p = .ok y) : zq_okM n y.2 := by
  obtain ⟨q, r, h1, h2, h3, h4⟩ := zq_pMatch_2 h
  have k1 := zq_pTake_k h1
  have hq := zq_pTake_ge hT hp h1
  have k2 : zq_isMS (zq_tK T n q) = true ∧ zq_pAdv T n q = .ok r := by
    unfold zq_pSign at h2
    by_cases c : zq_isMS (zq_tK T n q) = true
    · rw [if_pos c] at h2; exact ⟨c, h2⟩
    · rw [if_neg c] at h2; cases h2
  have hr := zq_pAdv_ge hT ⟨hq.1, hq.2.1⟩ k2.2
  have k3 := zq_pTake_k h3
  have R1 := zq_nm_ok hT hp (by omega)
  have R2 := zq_nm_ok hT ⟨hr.1, hr.2.1⟩ (by omega)
  have R3 := (zq_tok_R hT hr.1.1 hr.1.2).2.2.2 k3.1
  rw [h4]
  exact ⟨⟨R1.1, by show 0 ≤ zq_tB T n p - zq_tA T n p; omega, by show zq_tA T n p + (zq_tB T n p - zq_tA T n p) ≤ n; omega⟩, k2.1, ⟨by show 0 ≤ zq_tA T n r + 1; omega, by show 0 ≤ zq_tB T n r - 1 - (zq_tA T n r + 1); omega, by show zq_tA T n r + 1 + (zq_tB T n r - 1 - (zq_tA T n r + 1)) ≤ n; omega⟩⟩
set_option maxRecDepth 100000 in
theorem zq_pMatches_ok (hT : zq_tpT T n) : ∀ (m : Nat) (ms : List zq_MT) (p : Int) (y : Int × List zq_MT), (0 ≤ p ∧ p ≤ n) ∧ zq_tK T n p ≠ 300 → (∀ x ∈ ms, zq_okM n x) → zq_pMatches T n m ms p = .ok y → ∀ x ∈ y.2, zq_okM n x
  | 0, ms, p, y, hp, ho, h => by rw [zq_pMatches] at h; cases h; exact ho
  | m + 1, ms, p, y, hp, ho, h => by
    rw [zq_pMatches] at h
    obtain ⟨z, h1, h2⟩ := zq_pbd_inv h
    have hz := zq_pMatch_ge hT hp h1
    have ho' : ∀ x ∈ ms ++ [z.2], zq_okM n x := by
      intro x hx
      rcases List.mem_append.mp hx with q | q
      · exact ho x q
      · simp at q; subst q; exact zq_pMatch_ok hT hp h1
    by_cases c : zq_tK T n z.1 = 44
    · rw [if_pos c] at h2
      obtain ⟨q, h3, h4⟩ := zq_pbd_inv h2
      have hq := zq_pAdv_ge hT ⟨hz.1, hz.2.1⟩ h3
      exact zq_pMatches_ok hT m _ q y ⟨hq.1, hq.2.1⟩ ho' h4
    · rw [if_neg c] at h2; cases h2; exact ho'
set_option maxRecDepth 100000 in
/-- what a part of the reader yields -/
def zq_PW (T : Int → Int) (n : Int) (G : zq_PF) (d : Int) (hb : Int) : Prop := ∀ p y, (0 ≤ p ∧ p ≤ n) ∧ zq_tK T n p ≠ 300 → G d p = .ok y → ((0 ≤ y.1 ∧ y.1 ≤ n) ∧ zq_tK T n y.1 ≠ 300) ∧ (∀ o ∈ y.2, zq_OW n o) ∧ ∀ h : Nat, (h : Int) ≤ hb → zq_hrun y.2 h = some (h + 1)
set_option maxRecDepth 100000 in
theorem zq_pFunc_ok (hT : zq_tpT T n) {kd : Int} (hk : 1 ≤ kd ∧ kd ≤ 7) {p : Int} {y : Int × List zq_Od} (hp : (0 ≤ p ∧ p ≤ n) ∧ zq_tK T n p ≠ 300) (h : zq_pFunc T n kd p = .ok y) : ((0 ≤ y.1 ∧ y.1 ≤ n) ∧ zq_tK T n y.1 ≠ 300) ∧ (∀ o ∈ y.2, zq_OW n o) ∧ ∀ h : Nat, h ≤ 18 → zq_hrun y.2 h = some (h + 1) := by
  unfold zq_pFunc at h
  obtain ⟨q, h1, h2⟩ := zq_pbd_inv h
  obtain ⟨z, h3, h4⟩ := zq_pbd_inv h2
  obtain ⟨w, h5, h6⟩ := zq_pbd_inv h4
  cases h6
  have hq := zq_pAdv_ge hT hp h1
  have hz := zq_pBy_ge hT ⟨hq.1, hq.2.1⟩ h3
  have oz : zq_okN n z.2 := by
    unfold zq_pBy at h3
    by_cases c : zq_wrd T n q = [98, 121]
    · rw [if_pos c] at h3
      obtain ⟨a, a1, a2⟩ := zq_pbd_inv h3
      obtain ⟨b, b1, b2⟩ := zq_pbd_inv a2
      obtain ⟨e, e1, e2⟩ := zq_pbd_inv b2
      obtain ⟨f, f1, f2⟩ := zq_pbd_inv e2
      cases f2
      have ha := zq_pAdv_ge hT ⟨hq.1, hq.2.1⟩ a1
      have hb := zq_pTake_ge hT ⟨ha.1, ha.2.1⟩ b1
      exact zq_pNames_ok hT _ [] b e ⟨hb.1, hb.2.1⟩ ⟨by simp, by simp⟩ e1
    · rw [if_neg c] at h3; cases h3; exact ⟨by simp, by simp⟩
  rw [zq_pSel_1] at h5
  obtain ⟨u, u1, u2⟩ := zq_pbd_inv h5
  obtain ⟨t, t1, t2⟩ := zq_pbd_inv u2
  cases t2
  have hu := zq_pSel1_ge hT ⟨hz.1, hz.2.1⟩ u1
  have ht := zq_pTake_ge hT ⟨hu.1, hu.2.1⟩ t1
  have ou : ∀ x ∈ u.2.2, zq_okM n x := by
    unfold zq_pSel1 at u1
    obtain ⟨a, a1, a2⟩ := zq_pbd_inv u1
    obtain ⟨b, b1, b2⟩ := zq_pbd_inv a2
    obtain ⟨e, e1, e2⟩ := zq_pbd_inv b2
    obtain ⟨f, f1, f2⟩ := zq_pbd_inv e2
    cases f2
    have ha := zq_pTake_ge hT ⟨hz.1, hz.2.1⟩ a1
    have hb := zq_pTake_ge hT ⟨ha.1, ha.2.1⟩ b1
    by_cases c : zq_tK T n b = 125
    · rw [if_pos c] at e1; cases e1; simp
    · rw [if_neg c] at e1
      exact zq_pMatches_ok hT _ [] b e ⟨hb.1, hb.2.1⟩ (by simp) e1
  refine ⟨⟨ht.1, ht.2.1⟩, fun o ho => ?_, fun h hh => ?_⟩
  · simp at ho; subst ho
    exact Or.inr (Or.inl ⟨kd, _, z.2, u.2.2, rfl, hk, oz, ou⟩)
  · rw [zq_hrun, if_pos (Or.inr rfl), if_pos hh, zq_hrun]
set_option maxRecDepth 100000 in
theorem zq_fnK_R (p : Int) (h : zq_fnK T n p ≠ -1) : 1 ≤ zq_fnK T n p ∧ zq_fnK T n p ≤ 7 := by
  have u1 : zq_fnK T n p ≤ 7 := by unfold zq_fnK; repeat (split; omega); omega
  have u2 : zq_fnK T n p = -1 ∨ 1 ≤ zq_fnK T n p := by unfold zq_fnK; repeat (split; omega); omega
  omega
set_option maxRecDepth 100000 in
theorem zq_pFac_ok (hT : zq_tpT T n) {gS gF : zq_PF} {d : Int} (hd : 0 ≤ d ∧ d ≤ 8) (hS : d < 8 → zq_PW T n gS (d + 1) (2 * (d + 1))) (hF : d < 8 → zq_PW T n gF (d + 1) (2 * (d + 1) + 2)) : zq_PW T n (zq_pFac T n gS gF) d (2 * d + 2) := by
  intro p y hp h
  unfold zq_pFac at h
  by_cases c1 : zq_tK T n p = 302
  · rw [if_pos c1] at h
    obtain ⟨q, h1, h2⟩ := zq_pbd_inv h
    cases h2
    have hq := zq_pAdv_ge hT hp h1
    refine ⟨⟨hq.1, hq.2.1⟩, fun o ho => ?_, fun h hh => ?_⟩
    · simp at ho; subst ho; exact Or.inl ⟨_, rfl⟩
    · rw [zq_hrun, if_pos (Or.inl rfl), if_pos (by omega), zq_hrun]
  rw [if_neg c1] at h
  by_cases c2 : zq_tK T n p = 40 ∨ zq_tK T n p = 45
  · rw [if_pos c2] at h
    unfold zq_pOpen at h
    by_cases c3 : d < 8
    · rw [if_pos c3] at h
      obtain ⟨q, h1, h2⟩ := zq_pbd_inv h
      have hq := zq_pAdv_ge hT hp h1
      by_cases c4 : zq_tK T n p = 40
      · rw [if_pos c4] at h2
        obtain ⟨z, h3, h4⟩ := zq_pbd_inv h2
        obtain ⟨q2, h5, h6⟩ := zq_pbd_inv h4
        cases h6
        obtain ⟨i1, i2, i3⟩ := hS c3 q z ⟨hq.1, hq.2.1⟩ h3
        have hq2 := zq_pTake_ge hT i1 h5
        exact ⟨⟨hq2.1, hq2.2.1⟩, i2, fun h hh => i3 h (by omega)⟩
      · rw [if_neg c4] at h2
        obtain ⟨z, h3, h4⟩ := zq_pbd_inv h2
        cases h4
        obtain ⟨i1, i2, i3⟩ := hF c3 q z ⟨hq.1, hq.2.1⟩ h3
        refine ⟨i1, fun o ho => ?_, fun h hh => ?_⟩
        · rcases List.mem_append.mp ho with z' | z'
          · exact i2 o z'
          · simp at z'; subst z'; exact Or.inr (Or.inr (Or.inl rfl))
        · rw [zq_hrun_app, i3 h (by omega)]
          show zq_hrun [((311 : Int), ll 0, 0, 0, [], [])] (h + 1) = _
          rw [zq_hrun, if_neg (by decide), if_pos rfl, if_pos (by omega), zq_hrun]
    · rw [if_neg c3] at h; cases h
  · rw [if_neg c2] at h
    by_cases c3 : zq_fnK T n p = -1
    · rw [if_pos c3] at h; cases h
    · rw [if_neg c3] at h
      obtain ⟨i1, i2, i3⟩ := zq_pFunc_ok hT (zq_fnK_R p c3) hp h
      exact ⟨i1, i2, fun h hh => i3 h (by omega)⟩
set_option maxRecDepth 100000 in
theorem zq_pLoop_ok (hT : zq_tpT T n) {G : zq_PF} {sg : Int → Bool} (hsg : ∀ k, sg k = true → zq_bsg k) {d hb : Int} (hG : zq_PW T n G d (hb + 1)) : ∀ (m : Nat) (os : List zq_Od) (p : Int) (y : Int × List zq_Od), (0 ≤ p ∧ p ≤ n) ∧ zq_tK T n p ≠ 300 → (∀ o ∈ os, zq_OW n o) → (∀ h : Nat, (h : Int) ≤ hb → zq_hrun os h = some (h + 1)) → zq_pLoop T n G sg d m os p = .ok y → ((0 ≤ y.1 ∧ y.1 ≤ n) ∧ zq_tK T n y.1 ≠ 300) ∧ (∀ o ∈ y.2, zq_OW n o) ∧ ∀ h : Nat, (h : Int) ≤ hb → zq_hrun y.2 h = some (h + 1)
  | 0, os, p, y, hp, h1, h2, h => by rw [zq_pLoop] at h; cases h; exact ⟨hp, h1, h2⟩
  | m + 1, os, p, y, hp, h1, h2, h => by
    rw [zq_pLoop] at h
    by_cases c : sg (zq_tK T n p) = true
    · rw [if_pos c] at h
      have hb' := hsg _ c
      obtain ⟨q, h3, h4⟩ := zq_pbd_inv h
      obtain ⟨z, h5, h6⟩ := zq_pbd_inv h4
      have hq := zq_pAdv_ge hT hp h3
      obtain ⟨i1, i2, i3⟩ := hG q z ⟨hq.1, hq.2.1⟩ h5
      refine zq_pLoop_ok hT hsg hG m _ z.1 y i1 (fun o ho => ?_) (fun h hh => ?_) h6
      · rcases List.mem_append.mp ho with z' | z'
        · rcases List.mem_append.mp z' with z' | z'
          · exact h1 o z'
          · exact i2 o z'
        · simp at z'; subst z'
          exact Or.inr (Or.inr (Or.inr ⟨_, _, hb', by have := zq_tA_ge T n p; omega, rfl⟩))
      · unfold zq_bsg at hb'
        rw [zq_hrun_app, zq_hrun_app, h2 h hh]
        show ((zq_hrun z.2 (h + 1)).bind (zq_hrun _)) = _
        rw [i3 (h + 1) (by omega)]
        show zq_hrun _ (h + 1 + 1) = _
        rw [zq_hrun, if_neg (by show ¬ (zq_tK T n p = 302 ∨ zq_tK T n p = 310); omega), if_neg (by show ¬ zq_tK T n p = 311; omega), if_pos (by omega), zq_hrun]; rfl
    · rw [if_neg c] at h; cases h; exact ⟨hp, h1, h2⟩
set_option maxRecDepth 100000 in
theorem zq_pO_ok (hT : zq_tpT T n) : ∀ (m : Nat) (d : Int), 0 ≤ d → d ≤ 8 → zq_PW T n (zq_pO T n m).1 d (2 * d) ∧ zq_PW T n (zq_pO T n m).2 d (2 * d + 2)
  | 0, d, _, _ => ⟨fun p y hp h => (by cases h), fun p y hp h => (by cases h)⟩
  | m + 1, d, h0, h8 => by
    have hF : zq_PW T n (zq_pFac T n (zq_pO T n m).1 (zq_pO T n m).2) d (2 * d + 2) := zq_pFac_ok hT ⟨h0, h8⟩ (fun z => (zq_pO_ok hT m (d + 1) (by omega) (by omega)).1) (fun z => (zq_pO_ok hT m (d + 1) (by omega) (by omega)).2)
    refine ⟨?_, hF⟩
    have hPr : zq_PW T n (zq_pProd T n (zq_pO T n m).1 (zq_pO T n m).2) d (2 * d + 1) := by
      intro p y hp h
      unfold zq_pProd at h
      obtain ⟨z, h1, h2⟩ := zq_pbd_inv h
      obtain ⟨i1, i2, i3⟩ := hF p z hp h1
      exact zq_pLoop_ok hT (sg := zq_isPS) (fun k hk => by unfold zq_isPS at hk; unfold zq_bsg; have := of_decide_eq_true hk; omega) (hb := 2 * d + 1) (by rw [show 2 * d + 1 + 1 = 2 * d + 2 by omega]; exact hF) _ _ _ y i1 i2 (fun h hh => i3 h (by omega)) h2
    show zq_PW T n (zq_pSum T n (zq_pO T n m).1 (zq_pO T n m).2) d (2 * d)
    intro p y hp h
    unfold zq_pSum at h
    obtain ⟨z, h1, h2⟩ := zq_pbd_inv h
    obtain ⟨i1, i2, i3⟩ := hPr p z hp h1
    exact zq_pLoop_ok hT (sg := zq_isSS) (fun k hk => by unfold zq_isSS at hk; unfold zq_bsg; have := of_decide_eq_true hk; omega) (hb := 2 * d) hPr _ _ _ y i1 i2 (fun h hh => i3 h (by omega)) h2
set_option maxRecDepth 100000 in
theorem zq_pAll_ok (hT : zq_tpT T n) (h0 : 0 ≤ n) {os : List zq_Od} (h : zq_pAll T n = .ok os) : (∀ o ∈ os, zq_OW n o) ∧ zq_hrun os 0 = some 1 := by
  unfold zq_pAll at h
  by_cases c1 : zq_tK T n 0 = 300
  · rw [if_pos c1] at h; cases h
  · rw [if_neg c1] at h
    obtain ⟨z, h1, h2⟩ := zq_pbd_inv h
    obtain ⟨i1, i2, i3⟩ := (zq_pO_ok hT 10 0 (by omega) (by omega)).1 0 z ⟨⟨by omega, h0⟩, c1⟩ h1
    by_cases c2 : zq_tK T n z.1 = 301
    · rw [if_pos c2] at h2; cases h2
      exact ⟨i2, i3 0 (by omega)⟩
    · rw [if_neg c2] at h2; cases h2
end
/-! the program works its orders off -/
set_option maxRecDepth 100000 in
theorem zq_num_back (x : Int64) : (ll (w32 (x >>> ((ii 32).toInt64 &&& 63)).toInt) <<< ((ii 32).toInt64 &&& 63)) ||| (ll (w32 x.toInt) &&& ll 4294967295) = x := by
  obtain ⟨z, hz, rfl⟩ := ll_ex x
  have e1 : (ll z >>> ((ii 32).toInt64 &&& 63)).toInt = z / 4294967296 := by
    rw [ll_shr32 hz, ll_toInt ⟨by have := hz.1; omega, by have := hz.2; omega⟩]
  have h1 := hz.1
  have h2 := hz.2
  rw [e1, ll_toInt hz, zq_w32i (z := z / 4294967296) (by omega) (by omega), ll_shl32, ll_and32]
  have e2 : w32 z % 4294967296 = z % 4294967296 := by unfold w32; omega
  rw [e2, ll_or32 _ _ (by omega) (by omega)]
  congr 1; omega
set_option maxRecDepth 100000 in
theorem zq_encM_get : ∀ (ms : List zq_MT) (j : Nat) (m : zq_MT), ms[j]? = some m → (zq_encM ms)[5 * j]? = some m.1.1 ∧ (zq_encM ms)[5 * j + 1]? = some m.1.2 ∧ (zq_encM ms)[5 * j + 2]? = some m.2.1 ∧ (zq_encM ms)[5 * j + 3]? = some m.2.2.1 ∧ (zq_encM ms)[5 * j + 4]? = some m.2.2.2
  | [], j, m, h => by simp at h
  | y :: r, 0, m, h => by simp at h; subst h; exact ⟨rfl, rfl, rfl, rfl, rfl⟩
  | y :: r, j + 1, m, h => by
    rw [List.getElem?_cons_succ] at h
    have ih := zq_encM_get r j m h
    have e : zq_encM (y :: r) = y.1.1 :: y.1.2 :: y.2.1 :: y.2.2.1 :: y.2.2.2 :: zq_encM r := rfl
    rw [e, show 5 * (j + 1) = 5 * j + 1 + 1 + 1 + 1 + 1 by omega, show 5 * j + 1 + 1 + 1 + 1 + 1 + 1 = (5 * j + 1) + 1 + 1 + 1 + 1 + 1 by omega, show 5 * j + 1 + 1 + 1 + 1 + 1 + 2 = (5 * j + 2) + 1 + 1 + 1 + 1 + 1 by omega, show 5 * j + 1 + 1 + 1 + 1 + 1 + 3 = (5 * j + 3) + 1 + 1 + 1 + 1 + 1 by omega, show 5 * j + 1 + 1 + 1 + 1 + 1 + 4 = (5 * j + 4) + 1 + 1 + 1 + 1 + 1 by omega]
    simp only [List.getElem?_cons_succ]
    exact ih
set_option maxRecDepth 100000 in
theorem zq_frc_FRc {n : Int} {P Q : List Int} {kd : Int} {ns : List zq_NM} {ms : List zq_MT} (h1 : zq_okN n ns) (h2 : ∀ m ∈ ms, zq_okM n m) : zq_FRc n (zq_frc P kd ns ms ++ Q) P.length kd ns ms := by
  have g : ∀ i x, (zq_frc P kd ns ms)[i]? = some x → (zq_frc P kd ns ms ++ Q)[i]? = some x := fun i x h => by
    rw [List.getElem?_append_left (List.getElem?_eq_some_iff.mp h).1]; exact h
  refine ⟨zq_NR_app (zq_frc_NR h1.1 h1.2), g _ _ ?_, g _ _ ?_, fun j m hm => ?_⟩
  · exact zq_get_app (P := P) (R := [310, kd, (ns.length : Int), (ms.length : Int)] ++ (zq_encN ns ++ zq_encM ms)) (i := 1)
  · exact zq_get_app (P := P) (R := [310, kd, (ns.length : Int), (ms.length : Int)] ++ (zq_encN ns ++ zq_encM ms)) (i := 3)
  · have e := zq_encM_get ms j m hm
    have l := zq_encN_len ns
    have at' : ∀ i x, (zq_encM ms)[i]? = some x → (zq_frc P kd ns ms ++ Q)[P.length + 4 + 2 * ns.length + i]? = some x := by
      intro i x hx
      refine g _ _ ?_
      unfold zq_frc
      rw [show P.length + 4 + 2 * ns.length + i = P.length + (4 + (2 * ns.length + i)) by omega, zq_get_app, List.getElem?_append_right (by simp only [List.length_cons, List.length_nil]; omega)]
      rw [show 4 + (2 * ns.length + i) - [310, kd, (ns.length : Int), (ms.length : Int)].length = 2 * ns.length + i by simp only [List.length_cons, List.length_nil]; omega, List.getElem?_append_right (by omega), l, Nat.add_sub_cancel_left]
      exact hx
    exact ⟨h2 m (List.mem_of_getElem? hm), at' _ _ e.1, at' _ _ e.2.1, at' _ _ e.2.2.1, at' _ _ e.2.2.2.1, at' _ _ e.2.2.2.2⟩
section
variable {k0 : Nat} {T : Int → Int} {n : Int} {lb : Nat → zq_LB} {fr wd : Int64} {M : MS} {W : Nat} {Ks : List zq_Key} {pts : List zq_P4}
set_option maxRecDepth 100000 in
def zq_ENV (k0 W : Nat) (fr wd : Int64) (T : Int → Int) (n : Int) (lb : Nat → zq_LB) (M : MS) (Ks : List zq_Key) (pts : List zq_P4) (os : List zq_Od) (c : CW) (S : WS) : Prop := zq_EB k0 W fr wd c S ∧ zq_RLb c S M lb ∧ zq_PB k0 T n c S (zq_encOs os) ∧ (∀ o ∈ os, o.1 = 310 → zq_SG0 T lb c S Ks o.2.2.2.2.1 pts) ∧ (0 ≤ fr.toInt ∧ fr.toInt ≤ 1099511627775) ∧ (1 ≤ wd.toInt ∧ wd.toInt ≤ 1099511627775)
set_option maxRecDepth 100000 in
theorem zq_ENV_FE {os : List zq_Od} {c c' : CW} {S S' : WS} (h : zq_ENV k0 W fr wd T n lb M Ks pts os c S) (hf : zq_FE c S c' S') (he : zq_EB k0 W fr wd c' S') : zq_ENV k0 W fr wd T n lb M Ks pts os c' S' := by
  obtain ⟨h1, h2, h3, h4, h5, h6⟩ := h
  obtain ⟨⟨gc, gd, mo, bc, bs, rfl⟩, x1, x2, x3, x4, x5, x6, x7, x8, rfl⟩ := hf
  exact ⟨he, h2, ⟨⟨he.1, h3.1.2⟩, h3.2⟩, h4, h5, h6⟩
set_option maxRecDepth 100000 in
theorem zq_E_run27 {os : List zq_Od} (hOW : ∀ o ∈ os, zq_OW n o) : ∀ (rest : List zq_Od) (f : Nat) (dn : List zq_Od) (c : CW) (S : WS) (st st' : List zq_Tbl), os = dn ++ rest → rest.length < f → zq_ENV k0 W fr wd T n lb M Ks pts os c S → zq_SK c S W Ks st → st.length ≤ 19 → (∃ h', zq_hrun rest st.length = some h') → zq_rO (zq_stp1 T lb pts fr wd W) rest st = .ok st' → ∃ c' S', q_Ev_run_27 f c (zq_encOs dn).length S = mb2 (s_Ev_dropEmptyLines c' S') (fun r20 S20 => mb2 (s_Ev_table c' S20) (fun r21 S21 => if r21 < 19 then mb2 (s_Gd_lines c' S21 r21) (fun r23 S23 => some (r23, c', S23)) else none)) ∧ zq_FE c S c' S' ∧ zq_ENV k0 W fr wd T n lb M Ks pts os c' S' ∧ zq_SK c' S' W Ks st'
  | rest, 0, dn, c, S, st, st' => by omega
  | [], f + 1, dn, c, S, st, st' => by
    intro e1 hf hE hS hs19 hh hr
    cases hr
    have hp := hE.2.2.1
    have hoc := hp.1.1.2.2.2.2
    have es : s_Pg_size c S = some (((zq_encOs os).length : Int), S) := by rw [s_Pg_size, hp.2.2.2.1]
    have hl := hp.2.2.2.2
    rw [List.append_nil] at e1
    subst e1
    rw [q_Ev_run_27, zq_mb2_eq es, if_pos (Int.le_refl _)]
    exact ⟨c, S, rfl, zq_FE_refl _ _, hE, hS⟩
  | o :: rest, f + 1, dn, c, S, st, st' => by
    intro e1 hf hE hS hs19 hh hr
    have hp := hE.2.2.1
    have hoc := hp.1.1.2.2.2.2
    have hl := hp.2.2.2.2
    have es : s_Pg_size c S = some (((zq_encOs os).length : Int), S) := by rw [s_Pg_size, hp.2.2.2.1]
    have eL : zq_encOs os = zq_encOs dn ++ (zq_encO o ++ zq_encOs rest) := by rw [e1, zq_encOs_app]; rfl
    have eL2 : zq_encOs (dn ++ [o]) = zq_encOs dn ++ zq_encO o := by rw [zq_encOs_app]; simp [zq_encOs]
    have ho : o ∈ os := by rw [e1]; simp
    have hlen : (zq_encOs os).length = (zq_encOs dn).length + ((zq_encO o).length + (zq_encOs rest).length) := by rw [eL]; simp
    have e1' : os = (dn ++ [o]) ++ rest := by rw [e1]; simp
    obtain ⟨s1, r1, r2⟩ := zq_pbd_inv (show zq_pbd (zq_stp1 T lb pts fr wd W st o) (zq_rO (zq_stp1 T lb pts fr wd W) rest) = .ok st' from hr)
    obtain ⟨h', hh⟩ := hh
    have geto : ∀ i x, (zq_encO o)[i]? = some x → (zq_encOs os)[(zq_encOs dn).length + i]? = some x := by
      intro i x hx
      rw [eL, zq_get_app, List.getElem?_append_left (List.getElem?_eq_some_iff.mp hx).1]; exact hx
    simp only [List.length_cons] at hf
    -- the rest of it
    have go : ∀ (c2 : CW) (S2 : WS) (len : Int), zq_FE c S c2 S2 → zq_EB k0 W fr wd c2 S2 → zq_SK c2 S2 W Ks s1 → s1.length ≤ 19 → (∃ h', zq_hrun rest s1.length = some h') → len = (zq_encO o).length → ∃ c' S', q_Ev_run_141 (q_Ev_run_27 f) c2 len (zq_encOs dn).length S2 = mb2 (s_Ev_dropEmptyLines c' S') (fun r20 S20 => mb2 (s_Ev_table c' S20) (fun r21 S21 => if r21 < 19 then mb2 (s_Gd_lines c' S21 r21) (fun r23 S23 => some (r23, c', S23)) else none)) ∧ zq_FE c S c' S' ∧ zq_ENV k0 W fr wd T n lb M Ks pts os c' S' ∧ zq_SK c' S' W Ks st' := by
      intro c2 S2 len hF hB hK h19s hh2 hlen2
      obtain ⟨c', S', a1, a2, a3, a4⟩ := zq_E_run27 hOW rest f (dn ++ [o]) c2 S2 s1 st' e1' (by omega) (zq_ENV_FE hE hF hB) hK h19s hh2 r2
      refine ⟨c', S', ?_, zq_FE_tr hF a2, a3, a4⟩
      rw [eL2, List.length_append, Int.natCast_add] at a1
      rw [q_Ev_run_141, hlen2]; exact a1
    have nlt : 1 ≤ (zq_encO o).length → ¬ w32 ((zq_encOs os).length : Int) ≤ w32 ((zq_encOs dn).length : Int) := fun h1 => by
      rw [zq_w32i (z := ((zq_encOs os).length : Int)) (by omega) (by omega), zq_w32i (z := ((zq_encOs dn).length : Int)) (by omega) (by omega)]; omega
    have hEB := hE.1
    rcases hOW o ho with ⟨x, rfl⟩ | ⟨kd, q0, ns, ms, rfl, hkd, hns, hms⟩ | rfl | ⟨g, zq_pl, hg, hpl, rfl⟩
    · -- a number
      have g0 := zq_w_get hp (geto 0 302 rfl)
      have g1 := zq_w_get hp (geto 1 (x >>> ((ii 32).toInt64 &&& 63)).toInt rfl)
      have g2 := zq_w_get hp (geto 2 x.toInt rfl)
      rw [Nat.add_zero] at g0
      rw [Int.natCast_add] at g1 g2
      have el : s_Pg_lengthOf c S (zq_encOs dn).length = some (3, S) := by rw [s_Pg_lengthOf, zq_mb2_eq g0, if_pos (by decide)]
      have en : s_Pg_numberOf c S (zq_encOs dn).length = some (x, S) := by
        rw [s_Pg_numberOf, zq_mb2_eq (show s_Pg_get c S (((zq_encOs dn).length : Int) + 1) = _ from g1), zq_mb2_eq (show s_Pg_get c S (((zq_encOs dn).length : Int) + 2) = _ from g2), zq_num_back]
      rw [zq_hrun, if_pos (Or.inl rfl)] at hh
      by_cases c18 : st.length ≤ 18
      · rw [if_pos c18] at hh
        obtain ⟨c2, S2, a1, a2, a3, a4⟩ := zq_w_number hEB hS c18 x
        have er : s1 = ([], fun k w => if k = [] ∧ w < W then some x else none) :: st := by
          unfold zq_stp1 at r1; rw [if_pos rfl] at r1; cases r1; rfl
        rw [← er] at a4
        obtain ⟨c', S', b1, b2, b3, b4⟩ := go c2 S2 3 a2 a3 a4 (by rw [er]; simp; omega) ⟨h', by rw [er]; exact hh⟩ rfl
        refine ⟨c', S', ?_, b2, b3, b4⟩
        rw [q_Ev_run_27, zq_mb2_eq es, if_neg (nlt (by show 1 ≤ 3; omega)), zq_mb2_eq el, zq_mb2_eq g0, if_pos (by decide), zq_mb2_eq en, zq_mb3_eq a1]; exact b1
      · rw [if_neg c18] at hh; cases hh
    · -- a function
      have efr : zq_encOs os = zq_frc (zq_encOs dn) kd ns ms ++ zq_encOs rest := by
        rw [eL, ← List.append_assoc]; rfl
      have hFR : zq_FRc n (zq_encOs os) (zq_encOs dn).length kd ns ms := by rw [efr]; exact zq_frc_FRc hns hms
      have g0 := zq_w_get hp (geto 0 310 rfl)
      rw [Nat.add_zero] at g0
      have ell : (zq_encO ((310 : Int), ll 0, kd, q0, ns, ms)).length = 4 + 2 * ns.length + 5 * ms.length := by
        show ([310, kd, (ns.length : Int), (ms.length : Int)] ++ (zq_encN ns ++ zq_encM ms)).length = _
        simp only [List.length_append, zq_encN_len, zq_encM_len, List.length_cons, List.length_nil]; omega
      have g3 : s_Pg_get c S (((zq_encOs dn).length : Int) + 3) = some ((ms.length : Int), S) := zq_w_get hp hFR.2.2.1
      have el : s_Pg_lengthOf c S (zq_encOs dn).length = some ((((zq_encO ((310 : Int), ll 0, kd, q0, ns, ms)).length : Nat) : Int), S) := by
        have em : s_Pg_matchesOf c S (zq_encOs dn).length = some ((ms.length : Int), S) := by rw [s_Pg_matchesOf, zq_mb2_eq g3]
        have eo : s_Pg_matchOf c S (zq_encOs dn).length ms.length = some (((zq_encOs dn).length : Int) + 4 + 2 * (ns.length : Int) + 5 * (ms.length : Int), S) := by rw [s_Pg_matchOf, zq_mb2_eq (zq_w_namesOf hp hFR.1)]
        rw [s_Pg_lengthOf, zq_mb2_eq g0, if_neg (by decide), if_pos (by decide), zq_mb2_eq em, zq_mb2_eq eo, ell, show ((zq_encOs dn).length : Int) + 4 + 2 * (ns.length : Int) + 5 * (ms.length : Int) - ((zq_encOs dn).length : Int) = ((4 + 2 * ns.length + 5 * ms.length : Nat) : Int) by omega]
      rw [zq_hrun, if_pos (Or.inr rfl)] at hh
      by_cases c18 : st.length ≤ 18
      · rw [if_pos c18] at hh
        obtain ⟨c2, S2, a1, a2, a3, a4⟩ := zq_w_pushF hEB hS c18 hE.2.2.2.2.1 hE.2.2.2.2.2 hkd hE.2.1 hp (by omega) hFR (by omega) (hE.2.2.2.1 _ ho rfl)
        have er : s1 = (ns, zq_funT T lb pts fr wd W kd ns ms) :: st := by
          unfold zq_stp1 at r1; rw [if_neg (by show ¬ (310 : Int) = 302; decide), if_pos rfl] at r1; cases r1; rfl
        rw [← er] at a4
        obtain ⟨c', S', b1, b2, b3, b4⟩ := go c2 S2 (max 1 (w32 (((zq_encO ((310 : Int), ll 0, kd, q0, ns, ms)).length : Nat) : Int))) a2 a3 a4 (by rw [er]; simp; omega) ⟨h', by rw [er]; exact hh⟩ (by rw [zq_w32i (z := (((zq_encO ((310 : Int), ll 0, kd, q0, ns, ms)).length : Nat) : Int)) (by omega) (by omega)]; omega)
        refine ⟨c', S', ?_, b2, b3, b4⟩
        rw [q_Ev_run_27, zq_mb2_eq es, if_neg (nlt (by rw [ell]; omega)), zq_mb2_eq el, zq_mb2_eq g0, if_neg (by decide), if_pos (by decide), zq_mb3_eq a1]; exact b1
      · rw [if_neg c18] at hh; cases hh
    · -- minus
      have g0 := zq_w_get hp (geto 0 311 rfl)
      rw [Nat.add_zero] at g0
      have el : s_Pg_lengthOf c S (zq_encOs dn).length = some (1, S) := by rw [s_Pg_lengthOf, zq_mb2_eq g0, if_neg (by decide), if_neg (by decide)]
      rw [zq_hrun, if_neg (by decide), if_pos rfl] at hh
      match st, hS, hh, r1, hs19 with
      | [], hS, hh, r1, hs19 => rw [if_neg (by simp)] at hh; cases hh
      | t :: st, hS, hh, r1, hs19 =>
        rw [if_pos (by simp)] at hh
        simp only [List.length_cons] at hs19
        have h19 : st.length ≤ 18 := by omega
        obtain ⟨S2, a1, a2, a3, a4⟩ := zq_w_negate hEB hS h19
        have er : s1 = (t.1, fun k w => (t.2 k w).map (fun x => -x)) :: st := by
          unfold zq_stp1 at r1; rw [if_neg (by decide), if_neg (by decide), if_pos rfl] at r1; cases r1; rfl
        rw [← er] at a4
        obtain ⟨c', S', b1, b2, b3, b4⟩ := go c S2 1 a2 a3 a4 (by rw [er]; simp; omega) ⟨h', by rw [er]; exact hh⟩ rfl
        refine ⟨c', S', ?_, b2, b3, b4⟩
        rw [q_Ev_run_27, zq_mb2_eq es, if_neg (nlt (by show 1 ≤ 1; omega)), zq_mb2_eq el, zq_mb2_eq g0, if_neg (by decide), if_neg (by decide), if_pos (by decide), zq_mb2_eq a1]; exact b1
    · -- an operation
      have hg' := hg
      unfold zq_bsg at hg'
      have eo : zq_encO (g, ll 0, zq_pl, 0, [], []) = [g] := by unfold zq_encO; rw [if_neg (by show ¬ g = 302; omega), if_neg (by show ¬ g = 310; omega)]
      have g0 := zq_w_get hp (geto 0 g (by rw [eo]; rfl))
      rw [Nat.add_zero] at g0
      have wg : w32 g = g := zq_w32i (by omega) (by omega)
      have el : s_Pg_lengthOf c S (zq_encOs dn).length = some (1, S) := by rw [s_Pg_lengthOf, zq_mb2_eq g0, wg, if_neg (by omega), if_neg (by omega)]
      rw [zq_hrun, if_neg (by show ¬ (g = 302 ∨ g = 310); omega), if_neg (by show ¬ g = 311; omega)] at hh
      match st, hS, hh, r1, hs19 with
      | [], hS, hh, r1, hs19 => rw [if_neg (by simp)] at hh; cases hh
      | [t], hS, hh, r1, hs19 => rw [if_neg (by simp)] at hh; cases hh
      | b :: a :: st, hS, hh, r1, hs19 =>
        rw [if_pos (by simp)] at hh
        simp only [List.length_cons] at hs19
        have h19 : st.length ≤ 17 := by omega
        obtain ⟨S2, a1, a2, a3, a4⟩ := zq_w_combine hEB hS h19 hg
        have er : s1 = zq_joinT g a b :: st := by
          unfold zq_stp1 at r1; rw [if_neg (by show ¬ g = 302; omega), if_neg (by show ¬ g = 310; omega), if_neg (by show ¬ g = 311; omega)] at r1
          dsimp only at r1
          split at r1
          · cases r1
          · cases r1; rfl
        rw [← er] at a4
        obtain ⟨c', S', b1, b2, b3, b4⟩ := go c S2 1 a2 a3 a4 (by rw [er]; simp; omega) ⟨h', by rw [er]; simpa using hh⟩ (by rw [eo]; rfl)
        refine ⟨c', S', ?_, b2, b3, b4⟩
        rw [q_Ev_run_27, zq_mb2_eq es, if_neg (nlt (by rw [eo]; simp)), zq_mb2_eq el, zq_mb2_eq g0, wg, if_neg (by omega), if_neg (by omega), if_neg (by omega), zq_mb2_eq g0, zq_mb2_eq a1]; exact b1
end
/-! empty rows go in the program -/
section
variable {c : CW} {S : WS} {v W : Nat}
set_option maxRecDepth 100000 in
theorem zq_e_moveLeader {a b : Nat} (hab : b ≤ a ∧ a < 256) (hg : 0 ≤ S.gr_size ∧ S.gr_size ≤ 256) : s_Gr_moveLeader c S a b = some ((), WS.w_gr_leaders S (if (a : Int) < S.gr_size then aU S.gr_leaders b (S.gr_leaders a) else S.gr_leaders)) := by
  rw [s_Gr_moveLeader, zq_w32i (z := (a : Int)) (by omega) (by omega), if_neg (by omega), zq_w32i (z := S.gr_size) (by omega) (by omega), zq_w32i (z := (b : Int)) (by omega) (by omega)]
  by_cases c1 : (a : Int) < S.gr_size
  · rw [if_neg (by omega), if_neg (by omega), if_neg (by omega), if_pos (by omega), if_pos (by omega), if_pos c1]
  · rw [if_pos (by omega), if_neg c1]; try rfl
set_option maxRecDepth 100000 in
theorem zq_E_mv2 {L : Nat} (h : zq_gok c S v L W) {a b : Nat} (ha : a < L) (hb : b < L) : ∀ (m f w : Nat) (th : Int → Int) (nu : Int → Int64) (F : zq_FF), w + m = W → m < f → zq_gcs W L th nu F → ∃ th' nu', q_Gd_moveLine_2 c f v a b w (zq_gpc S v th nu) = some ((), zq_gpc S v th' nu') ∧ zq_gcs W L th' nu' (fun r' w' => if r' = b ∧ w ≤ w' then F a w' else F r' w')
  | m, 0, w, th, nu, F => by omega
  | m, f + 1, w, th, nu, F => by
    intro hm hf hF
    have h' : zq_gok c (zq_gpc S v th nu) v L W := h
    have e0 : (zq_gpc S v th nu).gd_windows v = W := h.1
    have hW := h.2.1
    rw [q_Gd_moveLine_2, e0, zq_w32i (z := (W : Int)) (by omega) (by omega), zq_w32i (z := (w : Int)) (by omega) (by omega)]
    cases m with
    | zero =>
      rw [if_pos (by omega)]
      exact ⟨th, nu, rfl, zq_gcs_F hF (fun r' w' _ hw' => if_neg (by omega))⟩
    | succ m =>
      have hp := zq_ix_in (W := W) ha (show w < W by omega)
      have hq := zq_ix_in (W := W) hb (show w < W by omega)
      have hc := hF a w ha (by omega)
      have hc' : zq_gcl ((zq_gpc S v th nu).gd_there v) ((zq_gpc S v th nu).gd_numbers v) ((a : Int) * W + w) (F a w) := by rw [zq_gpc_th, zq_gpc_nu]; exact hc
      rw [if_neg (by omega), zq_mb2_eq (zq_g_place h' ha)]
      have fin : ∀ (th1 : Int → Int) (nu1 : Int → Int64), zq_gcl th1 nu1 ((b : Int) * W + w) (F a w) → (∀ j, j ≠ (b : Int) * W + w → th1 j = th j ∧ nu1 j = nu j) → ∃ th' nu', q_Gd_moveLine_56 c (q_Gd_moveLine_2 c f) v a b w (zq_gpc S v th1 nu1) = some ((), zq_gpc S v th' nu') ∧ zq_gcs W L th' nu' (fun r' w' => if r' = b ∧ w ≤ w' then F a w' else F r' w') := by
        intro th1 nu1 g1 g2
        have := zq_gcs_upd hF (show w < W by omega) g1 g2
        obtain ⟨th', nu', a1, a2⟩ := zq_E_mv2 h ha hb m f (w + 1) th1 nu1 _ (by omega) (by omega) this
        refine ⟨th', nu', ?_, zq_gcs_F a2 (fun r' w' _ _ => ?_)⟩
        · rw [show ((w + 1 : Nat) : Int) = (w : Int) + 1 by omega] at a1
          rw [q_Gd_moveLine_56]; exact a1
        · by_cases c1 : r' = b ∧ w' = w
          · obtain ⟨rfl, rfl⟩ := c1
            rw [if_pos (by omega), if_neg (by omega), if_pos ⟨rfl, rfl⟩]
          · by_cases c2 : r' = b ∧ w + 1 ≤ w'
            · rw [if_pos (by omega), if_pos c2]; exact (if_neg (by omega)).symm
            · rw [if_neg (by omega), if_neg c2, if_neg c1]
      cases ho : F a w with
      | none =>
        rw [ho] at hc'
        rw [zq_mb2_eq (zq_g_has0 h' hp hc'), if_pos (by decide), zq_mb2_eq (zq_g_place h' hb), zq_mb2_eq (zq_g_clear h hq th nu)]
        exact fin _ _ (by rw [ho]; exact zq_gcl_cl _ _ _) (fun j hj => ⟨zq_aU_ne _ _ _ _ hj, rfl⟩)
      | some x =>
        rw [ho] at hc'
        rw [zq_mb2_eq (zq_g_has1 h' hp hc'), if_neg (by decide), zq_mb2_eq (zq_g_place h' hb), zq_mb2_eq (zq_g_num h' hp hc'), zq_mb2_eq (zq_g_put h hq th nu _)]
        exact fin _ _ (by rw [ho]; exact zq_gcl_at _ _ _ _) (fun j hj => ⟨zq_aU_ne _ _ _ _ hj, zq_aU_ne _ _ _ _ hj⟩)
set_option maxRecDepth 100000 in
theorem zq_E_em2 {L : Nat} (h : zq_gok c S v L W) {F : zq_FF} (hF : zq_gcs W L (S.gd_there v) (S.gd_numbers v) F) {a : Nat} (ha : a < L) : ∀ (m f w : Nat), w + m = W → m < f → ∃ e, q_Gd_isEmptyLine_2 c f v a w S = some (e, S) ∧ ((e = 1 ∧ ∀ w', w ≤ w' → w' < W → F a w' = none) ∨ (e = 0 ∧ ¬ ∀ w', w ≤ w' → w' < W → F a w' = none))
  | m, 0, w => by omega
  | m, f + 1, w => by
    intro hm hf
    have hW := h.2.1
    rw [q_Gd_isEmptyLine_2, h.1, zq_w32i (z := (W : Int)) (by omega) (by omega), zq_w32i (z := (w : Int)) (by omega) (by omega)]
    cases m with
    | zero => rw [if_pos (by omega)]; exact ⟨1, rfl, Or.inl ⟨rfl, fun w' _ _ => by omega⟩⟩
    | succ m =>
      have hp := zq_ix_in (W := W) ha (show w < W by omega)
      have hc := hF a w ha (by omega)
      rw [if_neg (by omega), zq_mb2_eq (zq_g_place h ha)]
      cases ho : F a w with
      | none =>
        rw [ho] at hc
        obtain ⟨e, ih, he⟩ := zq_E_em2 h hF ha m f (w + 1) (by omega) (by omega)
        rw [show ((w + 1 : Nat) : Int) = (w : Int) + 1 by omega] at ih
        rw [zq_mb2_eq (zq_g_has0 h hp hc), if_pos (by decide), ih]
        refine ⟨e, rfl, ?_⟩
        rcases he with ⟨e1, c1⟩ | ⟨e1, c1⟩
        · exact Or.inl ⟨e1, fun w' h1 h2 => by
            by_cases z : w' = w
            · rw [z]; exact ho
            · exact c1 w' (by omega) h2⟩
        · exact Or.inr ⟨e1, fun z => c1 (fun w' h1 h2 => z w' (by omega) h2)⟩
      | some x =>
        rw [ho] at hc
        rw [zq_mb2_eq (zq_g_has1 h hp hc), if_neg (by decide)]
        exact ⟨0, rfl, Or.inr ⟨rfl, fun z => by have := z w (by omega) (by omega); rw [ho] at this; cases this⟩⟩
end
section
variable {c : CW} {v W : Nat}
set_option maxRecDepth 100000 in
/-- the rows kept so far -/
def zq_DI (W : Nat) (t2 : zq_Tf) (Kl kl : List zq_Key) (l : Nat) (LP : zq_Key → Int → Prop) (F : zq_FF) (ld : Int → Int) : Prop := (kl.length ≤ l) ∧ (∀ j k, kl[j]? = some k → (∀ w, w < W → F j w = t2 k w) ∧ LP k (ld j)) ∧ (∀ r k, l ≤ r → Kl[r]? = some k → (∀ w, w < W → F r w = t2 k w) ∧ LP k (ld r))
set_option maxRecDepth 100000 in
theorem zq_E_dr9 {S : WS} {Kl : List zq_Key} (h : zq_gok c S v Kl.length W) {t2 : zq_Tf} {LP : zq_Key → Int → Prop} (hg : 0 ≤ S.gr_size ∧ S.gr_size ≤ 256) (hLP : (∀ k a, LP k a) ∨ S.gr_size = Kl.length) : ∀ (m f l : Nat) (kl : List zq_Key) (th : Int → Int) (nu : Int → Int64) (F : zq_FF) (ld : Int → Int), l + m = Kl.length → m < f → kl = (Kl.take l).filter (zq_neK W t2) → zq_gcs W Kl.length th nu F → zq_DI W t2 Kl kl l LP F ld → ∃ th' nu' ld' F', q_Ev_dropEmptyLines_9 c f v kl.length l (zq_gpc (WS.w_gr_leaders S ld) v th nu) = some ((), WS.w_gd_lines (zq_gpc (WS.w_gr_leaders S ld') v th' nu') (nU S.gd_lines v ((Kl.filter (zq_neK W t2)).length : Int))) ∧ zq_gcs W Kl.length th' nu' F' ∧ ∀ j k, (Kl.filter (zq_neK W t2))[j]? = some k → (∀ w, w < W → F' j w = t2 k w) ∧ LP k (ld' j)
  | m, 0, l, kl, th, nu, F, ld => by omega
  | m, f + 1, l, kl, th, nu, F, ld => by
    intro hm hf hkl hF hD
    have hL := h.2.2.1
    have hW := h.2.1
    have h' : zq_gok c (zq_gpc (WS.w_gr_leaders S ld) v th nu) v Kl.length W := h
    have h0 : zq_gok c (WS.w_gr_leaders S ld) v Kl.length W := h
    have e1 : s_Gd_lines c (zq_gpc (WS.w_gr_leaders S ld) v th nu) v = some ((Kl.length : Int), zq_gpc (WS.w_gr_leaders S ld) v th nu) := by rw [s_Gd_lines, show (zq_gpc (WS.w_gr_leaders S ld) v th nu).gd_lines v = Kl.length from hL.1]
    rw [q_Ev_dropEmptyLines_9, zq_mb2_eq e1, zq_w32i (z := (Kl.length : Int)) (by omega) (by omega), zq_w32i (z := (l : Int)) (by omega) (by omega)]
    cases m with
    | zero =>
      have el : l = Kl.length := by omega
      rw [el, List.take_length] at hkl
      refine ⟨th, nu, ld, F, ?_, hF, fun j k hk => hD.2.1 j k (by rw [hkl]; exact hk)⟩
      rw [if_pos (by omega), ← hkl]; rfl
    | succ m =>
      have hll : l < Kl.length := by omega
      have hk : Kl[l]? = some (Kl[l]'hll) := List.getElem?_eq_getElem _
      have hrow := hD.2.2 l _ (Nat.le_refl _) hk
      have hF' : zq_gcs W Kl.length ((zq_gpc (WS.w_gr_leaders S ld) v th nu).gd_there v) ((zq_gpc (WS.w_gr_leaders S ld) v th nu).gd_numbers v) F := by rw [zq_gpc_th, zq_gpc_nu]; exact hF
      obtain ⟨e0, ee, he⟩ := zq_E_em2 h' hF' hll W fU 0 (by omega) (zq_fU_gt (by omega))
      have etk : (Kl.take (l + 1)).filter (zq_neK W t2) = (Kl.take l).filter (zq_neK W t2) ++ (if zq_neK W t2 (Kl[l]'hll) then [Kl[l]'hll] else []) := by
        rw [List.take_add_one, hk, List.filter_append]
        show _ ++ List.filter (zq_neK W t2) [Kl[l]'hll] = _
        rw [List.filter_cons]; rfl
      generalize hkk : Kl[l]'hll = k0 at *
      have hiff : (∀ w', 0 ≤ w' → w' < W → F l w' = none) ↔ ¬ zq_neK W t2 k0 = true := by
        rw [zq_neK_iff]
        constructor
        · rintro z ⟨w, w1, w2⟩
          have := z w (by omega) w1
          rw [hrow.1 w w1] at this
          exact w2 this
        · intro z w' _ hw'
          rw [hrow.1 w' hw']
          exact Classical.byContradiction (fun q => z ⟨w', hw', q⟩)
      have ee' : s_Gd_isEmptyLine c (zq_gpc (WS.w_gr_leaders S ld) v th nu) v l = some (e0, zq_gpc (WS.w_gr_leaders S ld) v th nu) := ee
      rw [if_neg (by omega), zq_mb2_eq ee']
      by_cases c1 : zq_neK W t2 k0 = true
      · have he0 : e0 = 0 := by
          rcases he with ⟨z1, z2⟩ | ⟨z1, z2⟩
          · exact absurd c1 (hiff.mp z2)
          · exact z1
        rw [he0, if_pos (by decide)]
        rw [if_pos c1] at etk
        obtain ⟨th1, nu1, a1, a2⟩ := zq_E_mv2 h0 hll (b := kl.length) (by have := hD.1; omega) W fU 0 th nu F (by omega) (zq_fU_gt (by omega)) hF
        have a1' : s_Gd_moveLine c (zq_gpc (WS.w_gr_leaders S ld) v th nu) v l kl.length = some ((), zq_gpc (WS.w_gr_leaders S ld) v th1 nu1) := a1
        have ml := zq_e_moveLeader (c := c) (S := zq_gpc (WS.w_gr_leaders S ld) v th1 nu1) (a := l) (b := kl.length) ⟨hD.1, by omega⟩ hg
        have hDl := hD.1
        have e5 : WS.w_gr_leaders (zq_gpc (WS.w_gr_leaders S ld) v th1 nu1) (if (l : Int) < (zq_gpc (WS.w_gr_leaders S ld) v th1 nu1).gr_size then aU (zq_gpc (WS.w_gr_leaders S ld) v th1 nu1).gr_leaders kl.length ((zq_gpc (WS.w_gr_leaders S ld) v th1 nu1).gr_leaders l) else (zq_gpc (WS.w_gr_leaders S ld) v th1 nu1).gr_leaders) = zq_gpc (WS.w_gr_leaders S (if (l : Int) < S.gr_size then aU ld kl.length (ld l) else ld)) v th1 nu1 := rfl
        rw [e5] at ml
        have hlp : ∀ (k : zq_Key) (j : Int), j ≠ kl.length → LP k (ld j) → LP k ((if (l : Int) < S.gr_size then aU ld kl.length (ld l) else ld) j) := by
          intro k j hj hl
          split
          · rw [zq_aU_ne _ _ _ _ hj]; exact hl
          · exact hl
        have hlp2 : LP k0 ((if (l : Int) < S.gr_size then aU ld kl.length (ld l) else ld) kl.length) := by
          rcases hLP with z | z
          · exact z _ _
          · rw [if_pos (by omega), zq_aU_at]; exact hrow.2
        obtain ⟨th', nu', ld', F', b1, b2, b3⟩ := zq_E_dr9 h hg hLP m f (l + 1) (kl ++ [k0]) th1 nu1 _ _ (by omega) (by omega) (by rw [etk, hkl]) a2 (show zq_DI W t2 Kl (kl ++ [k0]) (l + 1) LP _ (if (l : Int) < S.gr_size then aU ld kl.length (ld l) else ld) from ⟨by simp; omega, fun j k hj => by
            by_cases z : j < kl.length
            · rw [List.getElem?_append_left z] at hj
              have q := hD.2.1 j k hj
              refine ⟨fun w hw => ?_, hlp k j (by omega) q.2⟩
              show (if j = kl.length ∧ 0 ≤ w then F l w else F j w) = _
              rw [if_neg (by omega)]; exact q.1 w hw
            · have hjl : j < (kl ++ [k0]).length := (List.getElem?_eq_some_iff.mp hj).1
              simp at hjl
              have : j = kl.length := by omega
              subst this
              rw [List.getElem?_append_right (Nat.le_refl _), Nat.sub_self] at hj
              simp at hj; subst hj
              refine ⟨fun w hw => ?_, hlp2⟩
              show (if kl.length = kl.length ∧ 0 ≤ w then F l w else F kl.length w) = _
              rw [if_pos ⟨rfl, by omega⟩]; exact hrow.1 w hw, fun r k hr hrk => by
            have q := hD.2.2 r k (by omega) hrk
            refine ⟨fun w hw => ?_, hlp k r (by omega) q.2⟩
            show (if r = kl.length ∧ 0 ≤ w then F l w else F r w) = _
            rw [if_neg (by omega)]; exact q.1 w hw⟩)
        rw [List.length_append, Int.natCast_add, show ((l + 1 : Nat) : Int) = (l : Int) + 1 by omega] at b1
        refine ⟨th', nu', ld', F', ?_, b2, b3⟩
        rw [zq_mb2_eq a1', zq_mb2_eq ml, q_Ev_dropEmptyLines_43]; exact b1
      · have he0 : e0 = 1 := by
          rcases he with ⟨z1, z2⟩ | ⟨z1, z2⟩
          · exact z1
          · exact absurd (hiff.mpr c1) z2
        rw [he0, if_neg (by decide)]
        rw [if_neg c1, List.append_nil] at etk
        obtain ⟨th', nu', ld', F', b1, b2, b3⟩ := zq_E_dr9 h hg hLP m f (l + 1) kl th nu F ld (by omega) (by omega) (by rw [etk, hkl]) hF ⟨by have := hD.1; omega, hD.2.1, fun r k hr => hD.2.2 r k (by omega)⟩
        rw [show ((l + 1 : Nat) : Int) = (l : Int) + 1 by omega] at b1
        refine ⟨th', nu', ld', F', ?_, b2, b3⟩
        rw [q_Ev_dropEmptyLines_43]; exact b1
set_option maxRecDepth 100000 in
theorem zq_w_drop {S : WS} {Ks : List zq_Key} {t : zq_Tbl} (hv : S.ev_stack 0 < 19) (hG : zq_GT c S (S.ev_stack 0) W Ks t) {LP : zq_Key → Int → Prop} (hg : 0 ≤ S.gr_size ∧ S.gr_size ≤ 256) (hLP : (∀ k a, LP k a) ∨ S.gr_size = (zq_KT Ks t.1).length) (hld : ∀ r k, (zq_KT Ks t.1)[r]? = some k → LP k (S.gr_leaders (r : Nat))) : ∃ th' nu' ld' F', s_Ev_dropEmptyLines c S = some ((), WS.w_gd_lines (zq_gpc (WS.w_gr_leaders S ld') (S.ev_stack 0) th' nu') (nU S.gd_lines (S.ev_stack 0) (((zq_KT Ks t.1).filter (zq_neK W t.2)).length : Int))) ∧ zq_gcs W (zq_KT Ks t.1).length th' nu' F' ∧ ∀ j k, ((zq_KT Ks t.1).filter (zq_neK W t.2))[j]? = some k → (∀ w, w < W → F' j w = t.2 k w) ∧ LP k (ld' j) := by
  have hL := hG.1.2.2.1
  obtain ⟨th', nu', ld', F', a1, a2, a3⟩ := zq_E_dr9 hG.1 (t2 := t.2) (LP := LP) hg hLP (zq_KT Ks t.1).length fU 0 [] _ _ _ S.gr_leaders (by omega) (zq_fU_gt (by omega)) (by simp) hG.2.2.1 ⟨by simp, fun j k hj => by simp at hj, fun r k _ hrk => ⟨fun w hw => by unfold zq_FT; rw [hrk], hld r k hrk⟩⟩
  refine ⟨th', nu', ld', F', ?_, a2, a3⟩
  have e0 : zq_gpc (WS.w_gr_leaders S S.gr_leaders) (S.ev_stack 0) (S.gd_there (S.ev_stack 0)) (S.gd_numbers (S.ev_stack 0)) = S := zq_gpc_id S (S.ev_stack 0)
  rw [e0] at a1
  have et : s_Ev_table c S = some (S.ev_stack 0, S) := by rw [s_Ev_table, if_pos (by omega), if_pos hv]
  rw [s_Ev_dropEmptyLines, zq_mb2_eq et, if_pos hv]; exact a1
set_option maxRecDepth 100000 in
theorem zq_srt_eq : ∀ (a b : List zq_Key), a.Pairwise zq_klt → b.Pairwise zq_klt → (∀ k, k ∈ a ↔ k ∈ b) → a = b
  | [], [], _, _, _ => rfl
  | [], y :: b, _, _, h => by have := (h y).mpr (by simp); simp at this
  | x :: a, [], _, _, h => by have := (h x).mp (by simp); simp at this
  | x :: a, y :: b, h1, h2, h => by
    rw [List.pairwise_cons] at h1 h2
    have asy : ∀ k k' : zq_Key, zq_klt k k' → ¬ zq_klt k' k := fun k k' z z' => by
      have := zq_kcmp_sym k k'; have q : zq_kcmp k k' = -1 := z; have q' : zq_kcmp k' k = -1 := z'; omega
    have exy : x = y := by
      rcases List.mem_cons.mp ((h x).mp (by simp)) with z | z
      · exact z
      · rcases List.mem_cons.mp ((h y).mpr (by simp)) with w | w
        · exact w.symm
        · exact absurd (h1.1 y w) (asy _ _ (h2.1 x z))
    subst exy
    have irr : ∀ k : zq_Key, ¬ zq_klt k k := fun k z => asy k k z z
    rw [zq_srt_eq a b h1.2 h2.2 (fun k => ?_)]
    constructor
    · intro hk
      rcases List.mem_cons.mp ((h k).mp (List.mem_cons_of_mem _ hk)) with z | z
      · subst z; exact absurd (h1.1 k hk) (irr k)
      · exact z
    · intro hk
      rcases List.mem_cons.mp ((h k).mpr (List.mem_cons_of_mem _ hk)) with z | z
      · subst z; exact absurd (h2.1 k hk) (irr k)
      · exact z
end
/-! the reference keeps its table -/
set_option maxRecDepth 100000 in
def zq_ktw (M : MS) (rl rt : Int → Int) (sh : Int → Int64) (is : Int → Int) (vl : Int) : MS := MS.w_m_valueLength (MS.w_m_isShown (MS.w_m_shown (MS.w_m_rowTexts (MS.w_m_rowLengths M rl) rt) sh) is) vl
section
variable {T : Int → Int} {n : Int} {lb : Nat → zq_LB} {N : Nat} {pts : List zq_P4} {fr wd : Int64} {W : Nat} {M : MS}
set_option maxRecDepth 100000 in
theorem zq_E_k94 (k35 : Int → MS → Option (Unit × MS)) (k45 : Int → Int → MS → Option (Unit × MS)) {r j : Nat} (hr : r < 256) (hj : j < 6) {v : List Int} {pos : Int} (hv : zq_VR M v pos) (hb : (∀ b ∈ v, zq_wdB b = true) ∧ v.length ≤ 24) (rl : Int → Int) (sh : Int → Int64) (is : Int → Int) : ∀ (m f b : Nat) (rt : Int → Int), b + m = v.length → m < f → ∃ rt', q_Mo_keepTable_94 k35 k45 f r j pos b (zq_ktw M rl rt sh is v.length) = k45 r ((j : Int) + 1) (zq_ktw M rl rt' sh is v.length) ∧ (∀ (i : Nat) (x : Int), v[i]? = some x → b ≤ i → rt' ((6 * (r : Int) + j) * 24 + i) = x) ∧ (∀ q, (q < (6 * (r : Int) + j) * 24 + b ∨ (6 * (r : Int) + j) * 24 + v.length ≤ q) → rt' q = rt q)
  | m, 0, b, rt => by omega
  | m, f + 1, b, rt => by
    intro hm hf
    rw [q_Mo_keepTable_94, show (zq_ktw M rl rt sh is v.length).m_valueLength = (v.length : Int) from rfl, zq_w32i (z := (v.length : Int)) (by omega) (by omega), zq_w32i (z := (b : Int)) (by omega) (by omega)]
    cases m with
    | zero =>
      rw [if_pos (by omega)]
      refine ⟨rt, rfl, fun i x hx hi => ?_, fun _ _ => rfl⟩
      have := (List.getElem?_eq_some_iff.mp hx).1; omega
    | succ m =>
      have hbl : b < v.length := by omega
      have hx : v[b]? = some (v[b]'hbl) := List.getElem?_eq_getElem _
      have hne : v ≠ [] := fun z => by rw [z] at hbl; simp at hbl
      obtain ⟨t1, t2, t3⟩ := hv hne
      have ht := t1 b _ hx
      have hw := (zq_wdB_iff _).mp (hb.1 _ (List.mem_of_getElem? hx))
      have e1 : (zq_ktw M rl rt sh is v.length).m_texts (pos + b) = v[b]'hbl := ht
      rw [if_neg (by omega), if_pos (by omega), if_pos (by omega), e1, if_pos (by omega)]
      generalize v[b]'hbl = z at *
      obtain ⟨rt', a1, a2, a3⟩ := zq_E_k94 k35 k45 hr hj hv hb rl sh is m f (b + 1) (aU rt ((6 * (r : Int) + j) * 24 + b) z) (by omega) (by omega)
      rw [show ((b + 1 : Nat) : Int) = (b : Int) + 1 by omega] at a1 a3
      refine ⟨rt', a1, fun i x hx' hi => ?_, fun q hq => ?_⟩
      · by_cases c1 : i = b
        · subst c1
          rw [hx] at hx'; cases hx'
          rw [a3 _ (by omega), zq_aU_at]
        · exact a2 i x hx' (by omega)
      · rw [a3 q (by omega), zq_aU_ne _ _ _ _ (by omega)]
set_option maxRecDepth 100000 in
/-- the texts of a row, kept -/
def zq_RB (rl rt : Int → Int) (r : Nat) (k : zq_Key) (j0 : Nat) : Prop := ∀ (j : Nat) (v : List Int), j < j0 → k[j]? = some v → rl (6 * (r : Int) + j) = v.length ∧ zq_aH rt ((6 * (r : Int) + j) * 24) v
set_option maxRecDepth 100000 in
theorem zq_E_k45 (k35 : Int → MS → Option (Unit × MS)) (h : zq_MB T n 1 M) (hc : zq_CX lb N pts fr wd W M) {ns : List zq_NM} (hx : zq_NX M 0 ns) (hm : M.m_names = ns.length) (ho : zq_okN n ns) {r : Nat} (hr : r < 256) {i : Nat} (hi : i < N) (hsr : ns ≠ [] → M.m_rowSeries r = i) (sh : Int → Int64) (is : Int → Int) : ∀ (m f j : Nat) (rl rt : Int → Int) (vl : Int), j + m = ns.length → m < f → zq_RB rl rt r (zq_keyOf T lb ns i) j → ∃ rl' rt' vl', q_Mo_keepTable_45 k35 f r j (zq_ktw M rl rt sh is vl) = q_Mo_keepTable_143 k35 fU r 0 (zq_ktw M rl' rt' sh is vl') ∧ zq_RB rl' rt' r (zq_keyOf T lb ns i) ns.length ∧ (∀ q, (q < 6 * (r : Int) ∨ 6 * (r : Int) + 6 ≤ q) → rl' q = rl q) ∧ (∀ q, (q < 6 * (r : Int) * 24 ∨ (6 * (r : Int) + 6) * 24 ≤ q) → rt' q = rt q)
  | m, 0, j, rl, rt, vl => by omega
  | m, f + 1, j, rl, rt, vl => by
    intro hjm hf hB
    have h6 := ho.2
    rw [q_Mo_keepTable_45, show (zq_ktw M rl rt sh is vl).m_names = (ns.length : Int) from hm, zq_w32i (z := (ns.length : Int)) (by omega) (by omega), zq_w32i (z := (j : Int)) (by omega) (by omega)]
    cases m with
    | zero =>
      have : j = ns.length := by omega
      subst this
      rw [if_pos (by omega)]
      exact ⟨rl, rt, vl, rfl, hB, fun _ _ => rfl, fun _ _ => rfl⟩
    | succ m =>
      have hjl : j < ns.length := by omega
      have hne : ns ≠ [] := fun z => by rw [z] at hjl; simp at hjl
      have hy : ns[j]? = some (ns[j]'hjl) := List.getElem?_eq_getElem _
      have hoy := ho.1 _ (List.mem_of_getElem? hy)
      have hnx := hx.2 j _ hy
      have hkey : (zq_keyOf T lb ns i)[j]? = some (zq_vOf (lb i) (zq_nmx T (ns[j]'hjl))) := by
        unfold zq_keyOf; rw [List.getElem?_map, hy]; rfl
      rw [show 6 * (0 : Int) + (j : Int) = j by omega] at hnx
      generalize ns[j]'hjl = y at *
      have h' : zq_MB T n 1 (zq_ktw M rl rt sh is vl) := h
      have hc' : zq_CX lb N pts fr wd W (zq_ktw M rl rt sh is vl) := hc
      obtain ⟨pos, p1, p2⟩ := zq_r_valueOf h' hc' hoy hi
      have e1 : (zq_ktw M rl rt sh is vl).m_rowSeries r = i := hsr hne
      have e2 : (zq_ktw M rl rt sh is vl).m_nameFroms j = y.1 := hnx.1
      have e3 : (zq_ktw M rl rt sh is vl).m_nameLengths j = y.2 := hnx.2
      have hvo := zq_vOf_ok (hc.2.2.2.2 i hi).1 (zq_nmx T y)
      rw [if_neg (by omega), if_pos (by omega), if_pos (by omega), if_pos (by omega), e1, e2, e3, zq_mb2_eq p1, if_pos (by omega)]
      generalize zq_vOf (lb i) (zq_nmx T y) = v at *
      have p2' : zq_VR M v pos := p2
      obtain ⟨rt1, a1, a2, a3⟩ := zq_E_k94 k35 (q_Mo_keepTable_45 k35 f) hr (show j < 6 by omega) p2' hvo (aU rl (6 * (r : Int) + j) v.length) sh is v.length fU 0 rt (by omega) (zq_fU_gt (by omega))
      obtain ⟨rl', rt', vl', b1, b2, b3, b4⟩ := zq_E_k45 k35 h hc hx hm ho hr hi hsr sh is m f (j + 1) (aU rl (6 * (r : Int) + j) v.length) rt1 v.length (by omega) (by omega) (by
        intro j' v' hj' hv'
        by_cases z : j' = j
        · subst z
          rw [hkey] at hv'; cases hv'
          exact ⟨zq_aU_at _ _ _, fun i' x hx' => a2 i' x hx' (by omega)⟩
        · have q := hB j' v' (by omega) hv'
          have hvl : v'.length ≤ 24 := by
            have : v' ∈ zq_keyOf T lb ns i := List.mem_of_getElem? hv'
            unfold zq_keyOf at this
            obtain ⟨y', -, e⟩ := List.mem_map.mp this
            rw [← e]
            exact (zq_vOf_ok (hc.2.2.2.2 i hi).1 (zq_nmx T y')).2
          refine ⟨by rw [zq_aU_ne _ _ _ _ (by omega)]; exact q.1, fun i' x hx' => ?_⟩
          have := (List.getElem?_eq_some_iff.mp hx').1
          rw [a3 _ (by omega)]; exact q.2 i' x hx')
      rw [show ((j + 1 : Nat) : Int) = (j : Int) + 1 by omega] at b1
      refine ⟨rl', rt', vl', ?_, b2, fun q hq => by rw [b3 q hq, zq_aU_ne _ _ _ _ (by omega)], fun q hq => by rw [b4 q hq, a3 q (by omega)]⟩
      rw [← b1]; exact a1
set_option maxRecDepth 100000 in
theorem zq_E_k143 (k35 : Int → MS → Option (Unit × MS)) (hW : M.m_windows = W ∧ W ≤ 64) (hs : M.m_starts 0 = 0) {r : Nat} (hr : r < 256) {g : zq_Tf} {k : zq_Key} (hg : ∀ v : Nat, v < W → zq_cE M ((r : Int) * W + v) (g k v)) (rl rt : Int → Int) (vl : Int) : ∀ (m f w : Nat) (sh : Int → Int64) (is : Int → Int), w + m = W → m < f → ∃ sh' is', q_Mo_keepTable_143 k35 f r w (zq_ktw M rl rt sh is vl) = k35 ((r : Int) + 1) (zq_ktw M rl rt sh' is' vl) ∧ (∀ w' : Nat, w ≤ w' → w' < W → zq_gcl is' sh' (64 * (r : Int) + w') (g k w')) ∧ (∀ q, (q < 64 * (r : Int) + w ∨ 64 * (r : Int) + W ≤ q) → sh' q = sh q ∧ is' q = is q)
  | m, 0, w, sh, is => by omega
  | m, f + 1, w, sh, is => by
    intro hm hf
    rw [q_Mo_keepTable_143, show (zq_ktw M rl rt sh is vl).m_windows = W from hW.1, zq_w32i (z := (W : Int)) (by omega) (by omega), zq_w32i (z := (w : Int)) (by omega) (by omega)]
    cases m with
    | zero =>
      rw [if_pos (by omega)]
      exact ⟨sh, is, rfl, fun w' h1 h2 => by omega, fun _ _ => ⟨rfl, rfl⟩⟩
    | succ m =>
      have hp := zq_ix_in (L := 256) (W := W) hr (show w < W by omega)
      have h16 : 256 * W ≤ 16384 := by have := Nat.mul_le_mul_left 256 hW.2; omega
      have cA : ∀ S : MS, S.m_starts = M.m_starts → S.m_windows = W → s_Mo_cellAt S 0 r w = some ((r : Int) * W + w, S) := by
        intro S h1 h2
        rw [s_Mo_cellAt, if_pos (by omega), h1, h2, hs]; simp
      have hcE := hg w (by omega)
      rw [if_neg (by omega), zq_mb2_eq (cA (zq_ktw M rl rt sh is vl) rfl hW.1), if_pos (by omega), if_pos (by omega), zq_mb2_eq (cA (MS.w_m_shown (zq_ktw M rl rt sh is vl) (aU (zq_ktw M rl rt sh is vl).m_shown (64 * (r : Int) + w) ((zq_ktw M rl rt sh is vl).m_cells ((r : Int) * W + w)))) rfl hW.1), if_pos (by omega), if_pos (by omega)]
      have h01 := zq_cE_01 hcE
      have ez : (MS.w_m_shown (zq_ktw M rl rt sh is vl) (aU (zq_ktw M rl rt sh is vl).m_shown (64 * (r : Int) + w) ((zq_ktw M rl rt sh is vl).m_cells ((r : Int) * W + w)))).m_isCell ((r : Int) * W + w) = M.m_isCell ((r : Int) * W + w) := rfl
      rw [ez, if_pos h01]
      obtain ⟨sh', is', a1, a2, a3⟩ := zq_E_k143 k35 hW hs hr hg rl rt vl m f (w + 1) (aU sh (64 * (r : Int) + w) (M.m_cells ((r : Int) * W + w))) (aU is (64 * (r : Int) + w) (M.m_isCell ((r : Int) * W + w))) (by omega) (by omega)
      rw [show ((w + 1 : Nat) : Int) = (w : Int) + 1 by omega] at a1 a3
      refine ⟨sh', is', a1, fun w' h1 h2 => ?_, fun q hq => ?_⟩
      · by_cases z : w' = w
        · subst z
          have q := a3 (64 * (r : Int) + w') (by omega)
          rw [zq_aU_at, zq_aU_at] at q
          cases ho : g k w' with
          | none => rw [ho] at hcE; show is' _ = 0; rw [q.2]; exact hcE
          | some x => rw [ho] at hcE; exact ⟨by rw [q.2]; exact hcE.1, by rw [q.1]; exact hcE.2⟩
        · exact a2 w' (by omega) h2
      · have z := a3 q (by omega)
        rw [zq_aU_ne _ _ _ _ (by omega), zq_aU_ne _ _ _ _ (by omega)] at z
        exact z
set_option maxRecDepth 100000 in
/-- rows kept -/
def zq_RK (T : Int → Int) (lb : Nat → zq_LB) (ns : List zq_NM) (W : Nat) (g : zq_Tf) (ks : List zq_Key) (r0 : Nat) (rl rt : Int → Int) (sh : Int → Int64) (is : Int → Int) : Prop := ∀ (r : Nat) (k : zq_Key), r < r0 → ks[r]? = some k → zq_RB rl rt r k ns.length ∧ ∀ w : Nat, w < W → zq_gcl is sh (64 * (r : Int) + w) (g k w)
set_option maxRecDepth 100000 in
theorem zq_E_k35 (h : zq_MB T n 1 M) (hc : zq_CX lb N pts fr wd W M) {t : zq_Tbl} (hx : zq_NX M 0 t.1) (hm : M.m_names = t.1.length) (ho : zq_okN n t.1) (hs : M.m_starts 0 = 0) {ks : List zq_Key} {sr : zq_Key → Int} (hks : M.m_rows = ks.length ∧ ks.length ≤ 256) (hTR : zq_TR M 0 W ks t.2 sr) (hkl : ∀ k ∈ ks, k.length = t.1.length) (hsr : t.1 ≠ [] → ∀ k ∈ ks, ∃ i : Nat, i < N ∧ sr k = i ∧ zq_keyOf T lb t.1 i = k) : ∀ (m f r : Nat) (rl rt : Int → Int) (sh : Int → Int64) (is : Int → Int) (vl : Int), r + m = ks.length → m < f → zq_RK T lb t.1 W t.2 ks r rl rt sh is → ∃ rl' rt' sh' is' vl', q_Mo_keepTable_35 f r (zq_ktw M rl rt sh is vl) = some ((), zq_ktw M rl' rt' sh' is' vl') ∧ zq_RK T lb t.1 W t.2 ks ks.length rl' rt' sh' is'
  | m, 0, r, rl, rt, sh, is, vl => by omega
  | m, f + 1, r, rl, rt, sh, is, vl => by
    intro hrm hf hK
    have hW := hc.1
    rw [q_Mo_keepTable_35, show (zq_ktw M rl rt sh is vl).m_rows = (ks.length : Int) from hks.1, zq_w32i (z := (ks.length : Int)) (by omega) (by omega), zq_w32i (z := (r : Int)) (by omega) (by omega)]
    cases m with
    | zero =>
      have : r = ks.length := by omega
      subst this
      rw [if_pos (by omega)]
      exact ⟨rl, rt, sh, is, vl, rfl, hK⟩
    | succ m =>
      have hrl : r < ks.length := by omega
      have hk : ks[r]? = some (ks[r]'hrl) := List.getElem?_eq_getElem _
      have hmem := List.mem_of_getElem? hk
      have hT := hTR r _ hk
      generalize ks[r]'hrl = k at *
      rw [if_neg (by omega)]
      -- the names
      have names : ∃ rl' rt' vl', q_Mo_keepTable_45 (q_Mo_keepTable_35 f) fU r 0 (zq_ktw M rl rt sh is vl) = q_Mo_keepTable_143 (q_Mo_keepTable_35 f) fU r 0 (zq_ktw M rl' rt' sh is vl') ∧ zq_RB rl' rt' r k t.1.length ∧ (∀ q, (q < 6 * (r : Int) ∨ 6 * (r : Int) + 6 ≤ q) → rl' q = rl q) ∧ (∀ q, (q < 6 * (r : Int) * 24 ∨ (6 * (r : Int) + 6) * 24 ≤ q) → rt' q = rt q) := by
        by_cases hne : t.1 = []
        · refine ⟨rl, rt, vl, ?_, fun j v hj => by rw [hne] at hj; simp at hj, fun _ _ => rfl, fun _ _ => rfl⟩
          have e0 : (zq_ktw M rl rt sh is vl).m_names = 0 := by show M.m_names = 0; rw [hm, hne]; rfl
          have e1 : fU = 999999 + 1 := rfl
          conv => lhs; rw [e1]
          rw [q_Mo_keepTable_45, e0, if_pos (by decide)]
        · obtain ⟨i, i1, i2, i3⟩ := hsr hne k hmem
          have hrs : M.m_rowSeries r = i := by
            have := hT.2; rw [i2] at this; rw [← this]; congr 1; omega
          obtain ⟨rl', rt', vl', a1, a2, a3, a4⟩ := zq_E_k45 (q_Mo_keepTable_35 f) h hc hx hm ho (r := r) (by omega) i1 (fun _ => hrs) sh is t.1.length fU 0 rl rt vl (by omega) (zq_fU_gt (by have := ho.2; omega)) (fun j v hj => by omega)
          rw [i3] at a2
          exact ⟨rl', rt', vl', a1, a2, a3, a4⟩
      obtain ⟨rl1, rt1, vl1, a1, a2, a3, a4⟩ := names
      have hg : ∀ v : Nat, v < W → zq_cE M ((r : Int) * W + v) (t.2 k v) := fun v hv => by
        have := hT.1 v hv
        rw [hs, Int.zero_add] at this; exact this
      obtain ⟨sh1, is1, b1, b2, b3⟩ := zq_E_k143 (q_Mo_keepTable_35 f) ⟨hW.1, hW.2.2⟩ hs (r := r) (by omega) hg rl1 rt1 vl1 W fU 0 sh is (by omega) (zq_fU_gt (by omega))
      obtain ⟨rl', rt', sh', is', vl', c1, c2⟩ := zq_E_k35 h hc hx hm ho hs hks hTR hkl hsr m f (r + 1) rl1 rt1 sh1 is1 vl1 (by omega) (by omega) (by
        intro r' k' hr' hk'
        have h6 := ho.2
        by_cases z : r' = r
        · subst z
          rw [hk] at hk'; cases hk'
          exact ⟨a2, fun w hw => b2 w (by omega) hw⟩
        · have q := hK r' k' (by omega) hk'
          have hk'l := hkl k' (List.mem_of_getElem? hk')
          refine ⟨fun j v hj hv => ?_, fun w hw => ?_⟩
          · have qq := q.1 j v hj hv
            have hvl : v.length ≤ 24 := by
              by_cases hne : t.1 = []
              · rw [hne] at hj; simp at hj
              · obtain ⟨i, i1, i2, i3⟩ := hsr hne k' (List.mem_of_getElem? hk')
                rw [← i3] at hv
                have : v ∈ zq_keyOf T lb t.1 i := List.mem_of_getElem? hv
                unfold zq_keyOf at this
                obtain ⟨y', -, e⟩ := List.mem_map.mp this
                rw [← e]
                exact (zq_vOf_ok (hc.2.2.2.2 i i1).1 (zq_nmx T y')).2
            refine ⟨by rw [a3 _ (by omega)]; exact qq.1, fun i' x hx' => ?_⟩
            have := (List.getElem?_eq_some_iff.mp hx').1
            rw [a4 _ (by omega)]; exact qq.2 i' x hx'
          · have qq := q.2 w hw
            have e := b3 (64 * (r' : Int) + w) (by omega)
            exact zq_gcl_ex qq e.2 e.1)
      rw [show ((r + 1 : Nat) : Int) = (r : Int) + 1 by omega] at c1
      exact ⟨rl', rt', sh', is', vl', by rw [a1]; exact b1.trans c1, c2⟩
set_option maxRecDepth 100000 in
/-- the reference keeps the lowest table -/
theorem zq_r_keep (h : zq_MB T n 1 M) {t : zq_Tbl} (hJ : zq_JR T n lb N pts fr wd W M [t]) : ∃ rl rt sh is vl ks, s_Mo_keepTable M = some ((), zq_ktw (MS.w_m_shownWindows (MS.w_m_rows (MS.w_m_names (MS.w_m_isTable M 1) t.1.length) (ks.length : Nat)) W) rl rt sh is vl) ∧ ks.length ≤ 256 ∧ ks.Pairwise zq_klt ∧ (∀ k ∈ ks, k.length = t.1.length) ∧ (∀ k, k ∈ ks ↔ ∃ v, v < W ∧ t.2 k v ≠ none) ∧ zq_RK T lb t.1 W t.2 ks ks.length rl rt sh is := by
  obtain ⟨hc, hp, hs, hT⟩ := hJ
  obtain ⟨⟨hx, ho, ks, sr, hR, hsrt, hkl, hTR, hmem, hsr⟩, -⟩ := hT [] t [] rfl
  have hx' : zq_NX M 0 t.1 := hx
  have hTR' : zq_TR M 0 W ks t.2 sr := hTR
  have hR' : M.m_tableRows 0 = ks.length := hR.1
  have hM : zq_MB T n 1 (MS.w_m_shownWindows (MS.w_m_rows (MS.w_m_names (MS.w_m_isTable M 1) t.1.length) (ks.length : Nat)) W) := h
  have hc' : zq_CX lb N pts fr wd W (MS.w_m_shownWindows (MS.w_m_rows (MS.w_m_names (MS.w_m_isTable M 1) t.1.length) (ks.length : Nat)) W) := hc
  obtain ⟨rl, rt, sh, is, vl, a1, a2⟩ := zq_E_k35 (t := t) hM hc' hx' rfl ho hs ⟨rfl, hR.2⟩ hTR' hkl hsr ks.length fU 0 M.m_rowLengths M.m_rowTexts M.m_shown M.m_isShown M.m_valueLength (by omega) (zq_fU_gt (by omega)) (fun r k hr => by omega)
  refine ⟨rl, rt, sh, is, vl, ks, ?_, hR.2, hsrt, hkl, hmem, a2⟩
  rw [s_Mo_keepTable, if_pos (by omega), if_pos (by omega), hx'.1, hR', hc.1.1]
  exact a1
end
/-! a question asked -/
set_option maxRecDepth 100000 in
def zq_ka (M : MS) := (M.m_tape, M.m_seriesCount, M.m_texts, M.m_textLengths, M.m_lasts, M.m_points, M.m_pointSeries, M.m_pointTimes, M.m_pointValues, M.m_places, M.m_head, M.m_parcels, M.m_scars, M.m_horizon, M.m_starts 0)
set_option maxRecDepth 100000 in
theorem zq_KF_ka {M M' : MS} (h : zq_KF M M') : zq_ka M' = zq_ka M ∧ M'.m_code = M.m_code ∧ M'.m_isTable = M.m_isTable ∧ M'.m_length = M.m_length := by
  unfold zq_KF zq_kf at h
  simp only [Prod.mk.injEq] at h
  obtain ⟨k1, k2, k3, k4, k5, k6, k7, k8, k9, k10, k11, k12, k13, k14, k15, k16, k17, k18, k19, k20, k21, k22⟩ := h
  unfold zq_ka
  rw [k1, k3, k4, k5, k6, k7, k8, k9, k10, k11, k12, k13, k14, k15, k22]
  exact ⟨rfl, k16, k20, k2⟩
set_option maxRecDepth 100000 in
theorem zq_ka_mpts {M M' : MS} (h : zq_ka M' = zq_ka M) : zq_mpts M' = zq_mpts M ∧ M'.m_points = M.m_points ∧ (zq_mpI M → zq_mpI M') := by
  unfold zq_ka at h
  simp only [Prod.mk.injEq] at h
  obtain ⟨k1, k2, k3, k4, k5, k6, k7, k8, k9, k10, k11, k12, k13, k14, k15⟩ := h
  refine ⟨by unfold zq_mpts zq_pg4; rw [k6, k7, k8, k9, k10], k6, fun q => ?_⟩
  unfold zq_mpI at q ⊢; rw [k6, k7, k10]; exact q
set_option maxRecDepth 100000 in
theorem zq_RSt_ka {c : CW} {S : WS} {M M' : MS} (h : zq_RSt c S M) (e : zq_ka M' = zq_ka M) : zq_RSt c S M' := by
  have q := zq_ka_mpts e
  unfold zq_ka at e
  simp only [Prod.mk.injEq] at e
  obtain ⟨k1, k2, k3, k4, k5, k6, k7, k8, k9, k10, k11, k12, k13, k14, k15⟩ := e
  obtain ⟨h1, h2, h3, h4, h5, h6, h7, h8⟩ := h
  refine ⟨fun i hi => by rw [q.1, k5]; exact h1 i hi, by rw [k14]; exact h2, by rw [k11, q.1]; exact h3, by rw [k12]; exact h4, by rw [k13]; exact h5, q.2.2 h6, by rw [q.1]; exact h7, by rw [k6]; exact h8⟩
set_option maxRecDepth 100000 in
theorem zq_RLb_ka {c : CW} {S : WS} {M M' : MS} {lb : Nat → zq_LB} (h : zq_RLb c S M lb) (e : zq_ka M' = zq_ka M) : zq_RLb c S M' lb := by
  unfold zq_ka at e
  simp only [Prod.mk.injEq] at e
  obtain ⟨k1, k2, k3, k4, k5, k6, k7, k8, k9, k10, k11, k12, k13, k14, k15⟩ := e
  unfold zq_RLb at h ⊢
  rw [k2, k3, k4]; exact h
set_option maxRecDepth 100000 in
/-- the reference's state as a question begins -/
def zq_aM (M : MS) (a1 a2 : Int64) (a3 : Int) : MS := MS.w_m_isTable (MS.w_m_windows (MS.w_m_width (MS.w_m_windowsFrom (MS.w_m_faultPlace (MS.w_m_faultCode (MS.w_m_code M 0) 0) 0) a1) a2) a3) 0
set_option maxRecDepth 100000 in
/-- what is left as it was, with an empty tape -/
theorem zq_RA_new {k : Nat} {c c9 : CW} {S S9 : WS} {M M9 : MS} (hA : zq_RA k c S M) (hk : k < 512) (e0 : zq_ka M9 = zq_ka M) (el : M9.m_length = 0 ∧ S9.tp_size = 0) (ec : (c9.tc = c.tc ∧ S9.tp_bytes = S.tp_bytes)) (hst : zq_RSt c9 S9 M) (hf : S9.wt_faultCode = M9.m_faultCode ∧ S9.wt_faultPlace = M9.m_faultPlace) (hre : zq_RE S9) {lb : Nat → zq_LB} (hlb : zq_RLb c9 S9 M lb) (hx : zq_RX c9 S9 M9 lb) (hg : zq_gdB (k + 1) c9 S9) : zq_RA (k + 1) c9 S9 M9 := by
  obtain ⟨h0, h1, h2, h3, -, h6, h7⟩ := hA
  obtain ⟨t1, t2, t3, t4, t5, t6⟩ := h1
  have ep := (zq_ka_mpts e0).2.1
  have e0' := e0
  unfold zq_ka at e0'
  simp only [Prod.mk.injEq] at e0'
  obtain ⟨k1, k2, k3, k4, k5, k6, k7, k8, k9, k10, k11, k12, k13, k14, k15⟩ := e0'
  refine ⟨hk, ⟨by rw [el.1, el.2], ⟨by rw [el.2]; omega, by rw [el.2]; omega, by rw [el.2, ec.1]; omega⟩, by rw [ec.1]; exact t3, fun j j0 j1 => by rw [el.2] at j1; omega, by rw [ec.2]; exact t5, by rw [k1]; exact t6⟩, zq_RSt_ka hst e0, ⟨hf, hre, by rw [k15]; exact h3.2.2⟩, ⟨lb, zq_RLb_ka hlb e0, hx⟩, hg, ?_⟩
  rw [ep, el.2]; omega
set_option maxRecDepth 100000 in
theorem zq_e_Tp0 {c : CW} {S : WS} (h : 0 ≤ S.tp_size ∧ S.tp_size ≤ 10240) : s_Tp_keep c S 0 = some ((), WS.w_tp_size S 0) := by
  rw [s_Tp_keep, if_neg (by decide), zq_w32i (z := S.tp_size) (by omega) (by omega), show w32 0 = 0 by decide]
  by_cases c1 : S.tp_size ≤ 0
  · have : S.tp_size = 0 := by omega
    rw [if_pos c1]
    have e : WS.w_tp_size S 0 = WS.w_tp_size S S.tp_size := by rw [this]
    exact congrArg (fun Z => some ((), Z)) e.symm
  · rw [if_neg c1]
section
variable {k : Nat} {c : CW} {S : WS} {M : MS} {a1 a2 : Int64} {a3 : Int}
set_option maxRecDepth 100000 in
/-- the windows of a question -/
def zq_okA (a1 a2 : Int64) (a3 : Int) : Prop := (0 ≤ a1.toInt ∧ a1.toInt ≤ 1099511627775) ∧ (1 ≤ a2.toInt ∧ a2.toInt ≤ 1099511627775) ∧ (1 ≤ a3 ∧ a3 ≤ 64)
set_option maxRecDepth 100000 in
theorem zq_e_ask_no (h3 : iR a3) (hn : ¬ zq_okA a1 a2 a3) (hb : 1 ≤ c.bc ∧ 6 ≤ c.bs) : s_WT_ask c S a1 a2 a3 = some ((2, 0), zq_thr c, S) ∧ s_Mo_ask M a1 a2 a3 = some (0, MS.w_m_code M 1) := by
  have e38 : q_WT_ask_38 c S = some ((2, 0), zq_thr c, S) := by rw [q_WT_ask_38, if_pos hb]; rfl
  have e42 : q_Mo_ask_42 a1 a2 a3 M = some (0, MS.w_m_code M 1) := by rw [q_Mo_ask_42, q_Mo_ask_47, if_neg (by decide)]
  unfold zq_okA at hn
  rw [s_WT_ask, s_Mo_ask, s_St_isTime, zq_w32i h3.1 h3.2]
  by_cases c1 : a1.toInt < 0
  · rw [if_pos c1, if_pos c1]; exact ⟨e38, e42⟩
  rw [if_neg c1, if_neg c1]
  by_cases c2 : 1099511627775 < a1.toInt
  · rw [if_pos c2, if_pos c2]; exact ⟨e38, e42⟩
  rw [if_neg c2, if_neg c2]
  rw [zq_mb2_eq (rfl : some ((1 : Int), S) = some (1, S)), if_neg (show ¬ w32 1 = 0 by decide)]
  by_cases c3 : a2.toInt < 1
  · rw [if_pos c3, if_pos c3]; exact ⟨e38, e42⟩
  rw [if_neg c3, if_neg c3]
  by_cases c4 : 1099511627775 < a2.toInt
  · rw [if_pos c4, if_pos c4]; exact ⟨e38, e42⟩
  rw [if_neg c4, if_neg c4]
  by_cases c5 : a3 < 1
  · rw [if_pos c5, if_pos c5]; exact ⟨e38, e42⟩
  rw [if_neg c5, if_neg c5]
  by_cases c6 : a3 ≤ 64
  · exact absurd ⟨⟨by omega, by omega⟩, ⟨by omega, by omega⟩, by omega, by omega⟩ hn
  · rw [if_neg c6, if_neg c6]; exact ⟨e38, e42⟩
set_option maxRecDepth 100000 in
theorem zq_e_ask_ok (h3 : iR a3) (ho : zq_okA a1 a2 a3) : s_WT_ask c S a1 a2 a3 = mb3 (s_QR_read c S) (fun r25 e25 S25 => if r25 = 0 ∨ r25 = 1 then mb2 (s_QR_faultCode e25 (WS.w_wt_hasTable S25 r25) ) (fun r27 S27 => mb2 (s_QR_faultPlace e25 (WS.w_wt_faultCode S27 r27) ) (fun r28 S28 => if w32 S28.wt_hasTable = 0 then q_WT_ask_118 e25 (-1) (WS.w_wt_faultPlace S28 r28) else mb2 (s_QR_naming e25 (WS.w_wt_faultPlace S28 r28) ) (fun r30 S30 => mb2 (s_Gr_form e25 S30 r30) (fun r31 S31 => mb3 (s_Ev_run e25 S31 a1 a2 a3) (fun r32 e32 S32 => q_WT_ask_118 e32 r32 S32))))) else none) ∧ s_Mo_ask M a1 a2 a3 = mb2 (s_Mo_question (zq_aM M a1 a2 a3) 0) (fun r16 S16 => if w32 r16 = 0 then q_Mo_ask_110 S16 else mb2 (s_Mo_question S16 1) (fun r18 S18 => if w32 r18 = 0 then q_Mo_ask_110 S18 else q_Mo_ask_111 1 S18)) := by
  obtain ⟨o1, o2, o3⟩ := ho
  rw [s_WT_ask, s_Mo_ask, s_St_isTime, zq_w32i h3.1 h3.2, if_neg (by omega), if_neg (by omega), if_neg (by omega), if_neg (by omega)]
  constructor
  · rw [zq_mb2_eq (rfl : some ((1 : Int), S) = some (1, S)), if_neg (show ¬ w32 1 = 0 by decide), if_neg (by omega), if_neg (by omega), if_neg (by omega), if_pos (by omega)]
  · rw [if_neg (by omega), if_neg (by omega), if_neg (by omega), if_pos (by omega), q_Mo_ask_47, if_pos (by decide)]; rfl
set_option maxRecDepth 100000 in
theorem zq_e_ask_0 (h3 : iR a3) (ho : zq_okA a1 a2 a3) {c' : CW} {S' : WS} (hr : s_QR_read c S = some (0, c', S')) (hs : 0 ≤ S'.tp_size ∧ S'.tp_size ≤ 10240) : s_WT_ask c S a1 a2 a3 = some ((0, -1), c', WS.w_tp_size (WS.w_wt_faultPlace (WS.w_wt_faultCode (WS.w_wt_hasTable S' 0) S'.qr_faultCode) S'.qr_faultPlace) 0) := by
  rw [(zq_e_ask_ok (c := c) (S := S) (M := M0) h3 ho).1, zq_mb3_eq hr, if_pos (Or.inl rfl)]
  have q1 : s_QR_faultCode c' (WS.w_wt_hasTable S' 0) = some (S'.qr_faultCode, WS.w_wt_hasTable S' 0) := rfl
  have q2 : s_QR_faultPlace c' (WS.w_wt_faultCode (WS.w_wt_hasTable S' 0) S'.qr_faultCode) = some (S'.qr_faultPlace, WS.w_wt_faultCode (WS.w_wt_hasTable S' 0) S'.qr_faultCode) := rfl
  have q3 : w32 (WS.w_wt_faultCode (WS.w_wt_hasTable S' 0) S'.qr_faultCode).wt_hasTable = 0 := (by decide : w32 0 = 0)
  rw [zq_mb2_eq q1, zq_mb2_eq q2, if_pos q3, q_WT_ask_118]
  exact zq_mb2_eq (zq_e_Tp0 (S := WS.w_wt_faultPlace (WS.w_wt_faultCode (WS.w_wt_hasTable S' 0) S'.qr_faultCode) S'.qr_faultPlace) hs)
set_option maxRecDepth 100000 in
/-- the end of a question with a fault -/
theorem zq_ask_err (hA : zq_RA k c S M) (hk : k < 512) (h3 : iR a3) (ho : zq_okA a1 a2 a3) {c' : CW} {S' : WS} {e : zq_PE} (hF : zq_FQ c S c' S') (g : zq_gdB k c' S') (hr : s_QR_read c S = some (0, c', S')) (f1 : S'.qr_faultCode = e.1) (f2 : S'.qr_faultPlace = e.2) {M' : MS} (hM : zq_ka M' = zq_ka M) (m1 : M'.m_faultCode = e.1 ∧ M'.m_faultPlace = e.2) (m2 : M'.m_code = 0 ∧ M'.m_isTable = 0) (hX : s_Mo_ask M a1 a2 a3 = q_Mo_ask_110 M') : ∃ (t r : Int) (c9 : CW) (S9 : WS) (r' : Int) (M1 : MS) (t' : Int) (M2 : MS), s_WT_ask c S a1 a2 a3 = some ((t, r), c9, S9) ∧ s_Mo_ask M a1 a2 a3 = some (r', M1) ∧ s_Mo_thrown M1 = some (t', M2) ∧ ((t = 0 ∧ w32 t' = 0 ∧ w32 r = w32 r') ∨ (t = 2 ∧ w32 t' = 1)) ∧ zq_RA (k + 1) c9 S9 M2 := by
  have hT := hA.2.1
  have hsz : S'.tp_size = S.tp_size := by
    obtain ⟨-, k', a, b, x, o, z, fc, fp, cl, r, rfl⟩ := hF; rfl
  have e1 := zq_e_ask_0 h3 ho hr (by rw [hsz]; have := hT.2.1; omega)
  refine ⟨0, -1, c', _, -1, MS.w_m_length M' 0, 0, MS.w_m_length M' 0, e1, ?_, ?_, Or.inl ⟨rfl, by decide, rfl⟩, ?_⟩
  · rw [hX, q_Mo_ask_110, q_Mo_ask_111, if_pos (by decide), q_Mo_ask_122, if_pos (by decide)]
  · show some (M'.m_code, _) = _
    rw [m2.1]
  · obtain ⟨lb, h4, h5⟩ := hA.2.2.2.2.1
    obtain ⟨⟨oc, bc, bs, rfl⟩, k', a, b, x, o, z, fc, fp, cl, r, rfl⟩ := hF
    exact zq_RA_new hA hk (M9 := MS.w_m_length M' 0) hM ⟨rfl, rfl⟩ ⟨rfl, rfl⟩ hA.2.2.1 ⟨f1.trans m1.1.symm, f2.trans m1.2.symm⟩ hA.2.2.2.1.2.1 h4 (Or.inl ⟨rfl, m2.2⟩) (zq_gdB_up g (by show (0 : Int) ≤ S.tp_size; exact hT.2.1.1))
end
set_option maxRecDepth 100000 in
theorem zq_encO_pos (o : zq_Od) : 1 ≤ (zq_encO o).length := by
  unfold zq_encO; split
  · simp
  · split
    · simp
    · simp
set_option maxRecDepth 100000 in
theorem zq_encOs_ge : ∀ os : List zq_Od, os.length ≤ (zq_encOs os).length
  | [] => by simp
  | o :: r => by
    have := zq_encOs_ge r
    have h := zq_encO_pos o
    have e : zq_encOs (o :: r) = zq_encO o ++ zq_encOs r := rfl
    rw [e, List.length_append, List.length_cons]; omega
set_option maxRecDepth 100000 in
theorem zq_keyOf_map {T : Int → Int} {lb : Nat → zq_LB} {a b : List zq_NM} (h : a.map (zq_nmx T) = b.map (zq_nmx T)) (i : Int) : zq_keyOf T lb a i = zq_keyOf T lb b i := by
  have e : ∀ l : List zq_NM, zq_keyOf T lb l i = (l.map (zq_nmx T)).map (fun y => zq_vOf (lb i.toNat) y) := fun l => by unfold zq_keyOf; rw [List.map_map]; rfl
  rw [e, e, h]
set_option maxRecDepth 100000 in
theorem zq_OW_pl {n : Int} {os : List zq_Od} (h : ∀ o ∈ os, zq_OW n o) : ∀ o ∈ os, o.1 ≠ 302 → o.1 ≠ 310 → o.1 ≠ 311 → 0 ≤ o.2.2.1 := by
  intro o ho h1 h2 h3
  rcases h o ho with ⟨x, rfl⟩ | ⟨kd, q0, ns, ms, rfl, -⟩ | rfl | ⟨g, zq_pl, hg, hpl, rfl⟩
  · exact absurd rfl h1
  · exact absurd rfl h2
  · exact absurd rfl h3
  · exact hpl
set_option maxRecDepth 100000 in
theorem zq_klt_nd {l : List zq_Key} (h : l.Pairwise zq_klt) : l.Nodup := by
  refine List.Pairwise.imp (fun {a b} hab e => ?_) h
  subst e
  have q : zq_kcmp a a = -1 := hab
  have := zq_kcmp_sym a a; omega
section
variable {k : Nat} {c : CW} {S : WS} {M : MS} {a1 a2 : Int64} {a3 : Int} {W : Nat}
set_option maxRecDepth 100000 in
/-- the reference, as a question begins -/
theorem zq_ask_MB (hA : zq_RA k c S M) (a1 a2 : Int64) (a3 : Int) : zq_MB (zq_bt S) S.tp_size 0 (MS.w_m_works (zq_aM M a1 a2 a3) 0) := by
  have hT := hA.2.1
  exact ⟨zq_RT_moI hT, (zq_RT_bt hT).symm, hT.1.symm, hT.2.1.2.1, ⟨rfl, rfl⟩, rfl, Or.inl rfl⟩
set_option maxRecDepth 100000 in
theorem zq_ask_CX (hA : zq_RA k c S M) {lb : Nat → zq_LB} (hlb : zq_RLb c S M lb) (ho : zq_okA a1 a2 a3) (hW : a3 = W) : zq_CX lb c.N (zq_mpts M) a1 a2 W (zq_aM M a1 a2 a3) := by
  have h2 := hA.2.2.1
  refine ⟨⟨hW, by have := ho.2.2; omega, by have := ho.2.2; omega⟩, ⟨rfl, rfl, ho.2.1.1, ho.2.1.2, ho.1.1, ho.1.2⟩, ⟨rfl, h2.2.2.2.2.2.1, h2.2.2.2.2.2.2.2, fun x hx => ?_⟩, ⟨hlb.1.2.symm, hlb.1.1⟩, fun i hi => ⟨(hlb.2.2 i hi).1, (hlb.2.2 i hi).2.2⟩⟩
  have q := h2.2.2.2.2.2.2.1 x hx
  refine ⟨⟨q.1, q.2.1⟩, q.2.2, ?_⟩
  -- a point of the reference is one of the program's
  obtain ⟨p1, p2, p3, p4, p5, p6⟩ := h2.1 x.1.toNat (by omega)
  have hm : zq_d3 x ∈ zq_serP (x.1.toNat : Int) (zq_mpts M) := by
    unfold zq_serP
    refine List.mem_map.mpr ⟨x, List.mem_filter.mpr ⟨hx, ?_⟩, rfl⟩
    simp; omega
  rw [← p4] at hm
  unfold zq_cpts at hm
  obtain ⟨j, j1, j2, j3⟩ := zq_gsl_mem hm
  have := p1.1
  have r := p3 j j1 (by omega)
  have e : x.2.1 = S.pt_times x.1.toNat j := congrArg (fun z : zq_P3 => z.1) j3
  rw [e]; exact ⟨r.1, r.2.1⟩
set_option maxRecDepth 100000 in
/-- the program's answer to a question that was read -/
theorem zq_ask_run (hA : zq_RA k c S M) (hk : k < 512) (h3 : iR a3) (ho : zq_okA a1 a2 a3) (hW : a3 = W) {lb : Nat → zq_LB} (hlb : zq_RLb c S M lb) {os : List zq_Od} (hos : zq_pAll (zq_bt S) S.tp_size = .ok os) {c' : CW} {S' : WS} {ns : List zq_NM} (hn : zq_nrun (zq_bt S) os ([], -1) = ([ns], -1)) (hF : zq_FQ c S c' S') (hr : s_QR_read c S = some (1, c', S')) (f1 : S'.qr_faultCode = 0) (f2 : S'.qr_faultPlace = 0) (hp : zq_PB k (zq_bt S) S.tp_size c' S' (zq_encOs os)) (hg : zq_NG S.tp_size (zq_encOs os) S'.qr_naming ns) {t : zq_Tbl} (ht : zq_rO (zq_stp1 (zq_bt S) lb (zq_mpts M) a1 a2 W) os [] = .ok [t]) (htn : t.1 = ns) : ∃ c9 S9 Ks, s_WT_ask c S a1 a2 a3 = some ((0, (((zq_KT Ks ns).filter (zq_neK W t.2)).length : Int)), c9, S9) ∧ (c9.tc = c.tc ∧ S9.tp_bytes = S.tp_bytes) ∧ S9.tp_size = 0 ∧ zq_RSt c9 S9 M ∧ (S9.wt_faultCode = 0 ∧ S9.wt_faultPlace = 0 ∧ S9.wt_hasTable = 1) ∧ zq_RE S9 ∧ zq_RLb c9 S9 M lb ∧ zq_gdB (k + 1) c9 S9 ∧ (zq_KT Ks ns).Pairwise zq_klt ∧ (zq_KT Ks ns).length ≤ 256 ∧ (∀ k w, k ∉ zq_KT Ks ns → w < W → t.2 k w = none) ∧ S9.gr_nameCount = ns.length ∧ (ns ≠ [] → S9.gr_size = (zq_KT Ks ns).length) ∧ (∃ L, zq_gok c9 (WS.w_gd_lines S9 (nU S9.gd_lines (S9.ev_stack 0) (L : Nat))) (S9.ev_stack 0) L W ∧ L = (zq_KT Ks ns).length) ∧ S9.gd_lines (S9.ev_stack 0) = (((zq_KT Ks ns).filter (zq_neK W t.2)).length : Int) ∧ (∀ (j : Nat) (k : zq_Key), ((zq_KT Ks ns).filter (zq_neK W t.2))[j]? = some k → (∀ w : Nat, w < W → zq_gcl (S9.gd_there (S9.ev_stack 0)) (S9.gd_numbers (S9.ev_stack 0)) ((j : Int) * W + w) (t.2 k w)) ∧ (ns ≠ [] → ∃ i : Nat, i < c9.N ∧ S9.gr_leaders (j : Int) = i ∧ zq_keyOf (zq_bt S) lb ns (i : Int) = k ∧ zq_GL (zq_bt S) lb ns S9.gr_labels i)) := by
  have hT := hA.2.1
  have hOW := zq_pAll_ok (zq_bt_T (zq_RT_tpI hT)) hT.2.1.1 hos
  have hsz : S'.tp_size = S.tp_size ∧ S'.tp_bytes = S.tp_bytes := by
    obtain ⟨-, k', a, b, x, o, z, fc, fp, cl, r, rfl⟩ := hF; exact ⟨rfl, rfl⟩
  -- what the reader left
  have hlb1 : zq_RLb c' (WS.w_wt_faultPlace (WS.w_wt_faultCode (WS.w_wt_hasTable S' 1) 0) 0) M lb := by
    obtain ⟨⟨oc, bc, bs, rfl⟩, k', a, b, x, o, z, fc, fp, cl, r, rfl⟩ := hF; exact hlb
  have hst1 : zq_RSt c' (WS.w_wt_faultPlace (WS.w_wt_faultCode (WS.w_wt_hasTable S' 1) 0) 0) M := by
    obtain ⟨⟨oc, bc, bs, rfl⟩, k', a, b, x, o, z, fc, fp, cl, r, rfl⟩ := hF; exact hA.2.2.1
  have hre1 : zq_RE (WS.w_wt_faultPlace (WS.w_wt_faultCode (WS.w_wt_hasTable S' 1) 0) 0) := by
    obtain ⟨⟨oc, bc, bs, rfl⟩, k', a, b, x, o, z, fc, fp, cl, r, rfl⟩ := hF; exact hA.2.2.2.1.2.1
  have htc : c'.tc = c.tc ∧ c'.N = c.N := by
    obtain ⟨⟨oc, bc, bs, rfl⟩, -⟩ := hF; exact ⟨rfl, rfl⟩
  have hp1 : zq_PB k (zq_bt S) S.tp_size c' (WS.w_wt_faultPlace (WS.w_wt_faultCode (WS.w_wt_hasTable S' 1) 0) 0) (zq_encOs os) := hp
  have hN := hlb1.1.1
  generalize hS1 : WS.w_wt_faultPlace (WS.w_wt_faultCode (WS.w_wt_hasTable S' 1) 0) 0 = S1 at *
  have hS1f : S1.wt_faultCode = 0 ∧ S1.wt_faultPlace = 0 ∧ S1.wt_hasTable = 1 ∧ S1.tp_size = S.tp_size ∧ S1.tp_bytes = S.tp_bytes := by
    rw [← hS1]; exact ⟨rfl, rfl, rfl, hsz.1, hsz.2⟩
  -- the groups
  have hgr : ∃ zq_gl od ld sz go Ks, s_Gr_form c' S1 S'.qr_naming = some ((), zq_grw (WS.w_gr_nameCount S1 ns.length) zq_gl od ld sz go) ∧ (0 ≤ sz ∧ sz ≤ 256) ∧ (ns ≠ [] → zq_GP (zq_bt S) lb ns (zq_grw (WS.w_gr_nameCount S1 ns.length) zq_gl od ld sz go) Ks c'.N) ∧ (ns = [] → Ks = []) := by
    obtain ⟨w1, w2⟩ := zq_w_form (M := M) (lb := lb) hlb1 rfl (fun a b => rfl) hp1 hg
    by_cases z : ns = []
    · refine ⟨S1.gr_labels, S1.gr_order, S1.gr_leaders, 0, S1.gr_groupOf, [], ?_, by omega, fun q => absurd z q, fun _ => rfl⟩
      rw [w1 z, z]; rfl
    · obtain ⟨zq_gl, od, ld, sz, go, Ks, g1, g2⟩ := w2 z
      refine ⟨zq_gl, od, ld, sz, go, Ks, g1, ?_, fun _ => g2, fun q => absurd q z⟩
      have e : sz = Ks.length := g2.1.2.1
      have := g2.1.2.2
      omega
  obtain ⟨zq_gl, od, ld, sz, go, Ks, g1, g2, g3, g4⟩ := hgr
  have hKsrt : (zq_KT Ks ns).Pairwise zq_klt := by
    by_cases z : ns = []
    · rw [z, zq_KT_nil]; simp
    · rw [zq_KT_len z]; exact (g3 z).2.1
  have hKsl : Ks.Pairwise zq_klt ∧ Ks.length ≤ 256 := by
    by_cases z : ns = []
    · rw [g4 z]; simp
    · exact ⟨(g3 z).2.1, by have := (g3 z).1.2.2; omega⟩
  have hKl : (zq_KT Ks ns).length ≤ 256 := by
    by_cases z : ns = []
    · rw [z, zq_KT_nil]; simp
    · rw [zq_KT_len z]; exact hKsl.2
  -- the orders
  have hS3 : ∃ S3, S3 = WS.w_ev_height (WS.w_ev_windows (WS.w_ev_width (WS.w_ev_from (zq_grw (WS.w_gr_nameCount S1 ns.length) zq_gl od ld sz go) a1) a2) a3) 0 := ⟨_, rfl⟩
  obtain ⟨S3, hS3⟩ := hS3
  have hE : zq_ENV k W a1 a2 (zq_bt S) S.tp_size lb M Ks (zq_mpts M) os c' S3 := by
    rw [hS3]
    refine ⟨⟨hp1.1.1, hp1.1.2.1, by show 0 ≤ S1.tp_size; rw [hS1f.2.2.2.1]; exact hT.2.1.1, hk, hre1, hW, by have := ho.2.2; omega, rfl, rfl⟩, hlb1, hp1, fun o ho' h310 => ?_, ho.1, ho.2.1⟩
    have an := (zq_all_names (zq_bt S) os [] ns (zq_OW_pl hOW.1) hn).2 o ho' h310
    refine ⟨fun i hi => ?_, fun x hx => ?_, zq_klt_nd hKsl.1, hKsl.2, fun hne => ?_⟩
    · obtain ⟨p1, p2, p3, p4, p5, p6⟩ := hst1.1 i hi
      exact ⟨p1, fun j j0 j1 => ⟨(p3 j j0 j1).1, (p3 j j0 j1).2.1⟩, p4⟩
    · have := hst1.2.2.2.2.2.2.1 x hx
      exact ⟨this.1, this.2.1⟩
    · have em := an hne
      have hns : ns ≠ [] := fun z => by
        rw [z] at em
        exact hne (List.map_eq_nil_iff.mp em)
      have q := g3 hns
      refine ⟨q.1.2.1, fun i hi => ?_⟩
      obtain ⟨g, q1, q2⟩ := q.2.2.2.1 i hi
      exact ⟨g, q1, by rw [zq_keyOf_map em]; exact q2⟩
  have hlen := zq_encOs_ge os
  have hoc := hp1.1.1.2.2.2.2
  have hll := hp1.2.2.2.2
  obtain ⟨c3, S4, b1, b2, b3, b4⟩ := zq_E_run27 hOW.1 os fU [] c' S3 [] [t] rfl (zq_fU_gt (by omega)) hE ⟨by rw [hS3]; rfl, fun pre t post e => by simp at e⟩ (by simp) ⟨1, hOW.2⟩ ht
  have hG := b4.2 [] t [] rfl
  have hG' : zq_GT c3 S4 (S4.ev_stack 0) W Ks t := hG
  have hv := b3.1.2.2.2.2.1.1 0 (by omega) (by omega)
  -- what the evaluator left
  obtain ⟨⟨gc, gd, mo, bc, bs, hc3⟩, x1, x2, x3, x4, x5, x6, x7, x8, hS4⟩ := b2
  have fr4 : S4.gr_leaders = ld ∧ S4.gr_labels = zq_gl ∧ S4.gr_size = sz ∧ S4.gr_nameCount = ns.length ∧ (S4.wt_faultCode = 0 ∧ S4.wt_faultPlace = 0 ∧ S4.wt_hasTable = 1) ∧ S4.tp_size = S.tp_size ∧ S4.tp_bytes = S.tp_bytes := by
    rw [hS4, hS3]
    exact ⟨rfl, rfl, rfl, rfl, ⟨hS1f.1, hS1f.2.1, hS1f.2.2.1⟩, hS1f.2.2.2.1, hS1f.2.2.2.2⟩
  have hst4 : zq_RSt c3 S4 M := by rw [hc3, hS4, hS3]; exact hst1
  have hN3 : c3.N = c'.N ∧ c3.tc = c'.tc := by rw [hc3]; exact ⟨rfl, rfl⟩
  obtain ⟨th, nu, ld', F', d1, d2, zq_d3⟩ := zq_w_drop hv hG' (LP := fun k a => ns ≠ [] → ∃ i : Nat, i < c'.N ∧ a = i ∧ zq_keyOf (zq_bt S) lb ns (i : Int) = k) (by rw [fr4.2.2.1]; exact g2) (by
      by_cases z : ns = []
      · exact Or.inl (fun k a q => absurd z q)
      · right
        rw [fr4.2.2.1, htn, zq_KT_len z]
        have e : sz = Ks.length := (g3 z).1.2.1
        exact e) (fun r k hrk hne => by
      rw [htn, zq_KT_len hne] at hrk
      obtain ⟨i, i1, i2, i3⟩ := (g3 hne).2.2.2.2.1 r k hrk
      refine ⟨i, i1, ?_, i3⟩
      rw [fr4.1]; exact i2)
  rw [htn] at d1 d2 zq_d3
  have hS9 : ∃ S9, S9 = WS.w_tp_size (WS.w_gd_lines (zq_gpc (WS.w_gr_leaders S4 ld') (S4.ev_stack 0) th nu) (nU S4.gd_lines (S4.ev_stack 0) (((zq_KT Ks ns).filter (zq_neK W t.2)).length : Int))) 0 := ⟨_, rfl⟩
  obtain ⟨S9, hS9⟩ := hS9
  have ev9 : S9.ev_stack 0 = S4.ev_stack 0 := by rw [hS9]; rfl
  have eth : S9.gd_there (S9.ev_stack 0) = th := by rw [ev9, hS9]; exact nU_at _ _ _
  have enu : S9.gd_numbers (S9.ev_stack 0) = nu := by rw [ev9, hS9]; exact nU_at _ _ _
  refine ⟨c3, S9, Ks, ?_, ⟨by rw [hN3.2, htc.1], by rw [hS9]; exact fr4.2.2.2.2.2.2⟩, by rw [hS9], by rw [hS9]; exact hst4, by rw [hS9]; exact fr4.2.2.2.2.1, by rw [hS9]; exact b3.1.2.2.2.2.1, by rw [hS9]; exact b3.2.1, ?_, hKsrt, hKl, fun k w hk' hw' => hG'.2.2.2 k w (by rw [htn]; exact hk') hw', by rw [hS9]; exact fr4.2.2.2.1, fun z => ?_, ⟨(zq_KT Ks ns).length, ?_, rfl⟩, ?_, fun j kk hj => ?_⟩
  · -- the call
    rw [(zq_e_ask_ok (c := c) (S := S) (M := M) h3 ho).1, zq_mb3_eq hr, if_pos (Or.inr rfl)]
    have q1 : s_QR_faultCode c' (WS.w_wt_hasTable S' 1) = some (0, WS.w_wt_hasTable S' 1) := by rw [s_QR_faultCode, show (WS.w_wt_hasTable S' 1).qr_faultCode = 0 from f1]
    have q2 : s_QR_faultPlace c' (WS.w_wt_faultCode (WS.w_wt_hasTable S' 1) 0) = some (0, WS.w_wt_faultCode (WS.w_wt_hasTable S' 1) 0) := by rw [s_QR_faultPlace, show (WS.w_wt_faultCode (WS.w_wt_hasTable S' 1) 0).qr_faultPlace = 0 from f2]
    have q3 : ¬ w32 (WS.w_wt_faultCode (WS.w_wt_hasTable S' 1) 0).wt_hasTable = 0 := (by decide : ¬ w32 1 = 0)
    have q4 : s_QR_naming c' S1 = some (S'.qr_naming, S1) := by rw [s_QR_naming, ← hS1]
    have q5 : s_Ev_run c' (zq_grw (WS.w_gr_nameCount S1 ns.length) zq_gl od ld sz go) a1 a2 a3 = some ((((zq_KT Ks ns).filter (zq_neK W t.2)).length : Int), c3, WS.w_gd_lines (zq_gpc (WS.w_gr_leaders S4 ld') (S4.ev_stack 0) th nu) (nU S4.gd_lines (S4.ev_stack 0) (((zq_KT Ks ns).filter (zq_neK W t.2)).length : Int))) := by
      rw [s_Ev_run, ← hS3]
      refine Eq.trans b1 ?_
      rw [zq_mb2_eq d1]
      have et : s_Ev_table c3 (WS.w_gd_lines (zq_gpc (WS.w_gr_leaders S4 ld') (S4.ev_stack 0) th nu) (nU S4.gd_lines (S4.ev_stack 0) (((zq_KT Ks ns).filter (zq_neK W t.2)).length : Int))) = some (S4.ev_stack 0, WS.w_gd_lines (zq_gpc (WS.w_gr_leaders S4 ld') (S4.ev_stack 0) th nu) (nU S4.gd_lines (S4.ev_stack 0) (((zq_KT Ks ns).filter (zq_neK W t.2)).length : Int))) := by
        rw [s_Ev_table, if_pos (by omega)]
        exact if_pos hv
      have el : s_Gd_lines c3 (WS.w_gd_lines (zq_gpc (WS.w_gr_leaders S4 ld') (S4.ev_stack 0) th nu) (nU S4.gd_lines (S4.ev_stack 0) (((zq_KT Ks ns).filter (zq_neK W t.2)).length : Int))) (S4.ev_stack 0) = some ((((zq_KT Ks ns).filter (zq_neK W t.2)).length : Int), WS.w_gd_lines (zq_gpc (WS.w_gr_leaders S4 ld') (S4.ev_stack 0) th nu) (nU S4.gd_lines (S4.ev_stack 0) (((zq_KT Ks ns).filter (zq_neK W t.2)).length : Int))) := by
        rw [s_Gd_lines]
        exact congrArg (fun z : Int => some (z, _)) (nU_at S4.gd_lines (S4.ev_stack 0) (((zq_KT Ks ns).filter (zq_neK W t.2)).length : Int))
      rw [zq_mb2_eq et, if_pos hv, zq_mb2_eq el]
    rw [zq_mb2_eq q1, zq_mb2_eq q2, if_neg q3, hS1, zq_mb2_eq q4, zq_mb2_eq g1, zq_mb3_eq q5, q_WT_ask_118]
    rw [hS9]
    refine zq_mb2_eq (zq_e_Tp0 (S := WS.w_gd_lines (zq_gpc (WS.w_gr_leaders S4 ld') (S4.ev_stack 0) th nu) (nU S4.gd_lines (S4.ev_stack 0) (((zq_KT Ks ns).filter (zq_neK W t.2)).length : Int))) ?_)
    show 0 ≤ S4.tp_size ∧ S4.tp_size ≤ 10240
    rw [fr4.2.2.2.2.2.1]; exact ⟨hT.2.1.1, hT.2.1.2.1⟩
  · refine zq_gdB_up (S := S4) b3.1.1 ?_
    rw [hS9]; show (0 : Int) ≤ S4.tp_size
    rw [fr4.2.2.2.2.2.1]; exact hT.2.1.1
  · rw [hS9]; show S4.gr_size = _
    rw [fr4.2.2.1, zq_KT_len z]; exact (g3 z).1.2.1
  · have hgk := hG'.1
    rw [htn] at hgk
    rw [ev9, hS9]
    obtain ⟨y1, y2, y3, y4, y5⟩ := hgk
    exact ⟨y1, y2, ⟨nU_at _ _ _, y3.2⟩, y4, y5⟩
  · rw [ev9, hS9]; exact nU_at _ _ _
  · have q := zq_d3 j kk hj
    have hjl : j < (zq_KT Ks ns).length := by
      have := (List.getElem?_eq_some_iff.mp hj).1
      have := List.length_filter_le (zq_neK W t.2) (zq_KT Ks ns)
      omega
    rw [eth, enu]
    refine ⟨fun w hw => by rw [← q.1 w hw]; exact d2 j w hjl hw, fun z => ?_⟩
    obtain ⟨i, i1, i2, i3⟩ := q.2 z
    refine ⟨i, by rw [hN3.1]; exact i1, by rw [hS9]; exact i2, i3, ?_⟩
    have := (g3 z).2.2.2.2.2 i i1
    rw [hS9]; show zq_GL (zq_bt S) lb ns S4.gr_labels i
    rw [fr4.2.1]; exact this
end
set_option maxRecDepth 100000 in
theorem zq_gcl_0 {th : Int → Int} {nu : Int → Int64} {p : Int} {o : Option Int64} (h : zq_gcl th nu p o) : (w32 (th p) = 0 ↔ o = none) ∧ (o ≠ none → some (nu p) = o) := by
  cases o with
  | none =>
    have e : th p = 0 := h
    rw [e]
    exact ⟨⟨fun _ => rfl, fun _ => by decide⟩, fun z => absurd rfl z⟩
  | some x =>
    have e : th p = 1 := h.1
    rw [e]
    exact ⟨⟨fun z => absurd z (by decide), fun z => (by cases z)⟩, fun _ => by rw [h.2]⟩
set_option maxRecDepth 100000 in
theorem zq_p_ask : st_ask zq_RA := by
  intro k c S M a1 a2 a3 hk hA h3
  by_cases ho : zq_okA a1 a2 a3
  case neg =>
    have lo := zq_RA_lo hA hk
    obtain ⟨e1, e2⟩ := zq_e_ask_no (c := c) (S := S) (M := M) h3 ho (by omega)
    exact ⟨2, 0, zq_thr c, S, 0, MS.w_m_code M 1, 1, MS.w_m_code M 1, e1, e2, rfl, Or.inr ⟨rfl, by decide⟩, zq_RA_thr hA hk 1⟩
  case pos =>
    have hT := hA.2.1
    obtain ⟨W, hW⟩ : ∃ W : Nat, a3 = W := ⟨a3.toNat, by have := ho.2.2; omega⟩
    obtain ⟨lb, hlb, hX⟩ := hA.2.2.2.2.1
    have hMB := zq_ask_MB hA a1 a2 a3
    have hCX := zq_ask_CX hA hlb ho hW
    obtain ⟨w1, w2⟩ := zq_w_read (k := k) hA.2.2.2.2.2.1 hT.2.2.1.2 hk (zq_RT_tpI hT) hT.2.1.2.1
    obtain ⟨p1, p2⟩ := zq_r_pass0 hMB
    have eM := (zq_e_ask_ok (c := c) (S := S) (M := M) h3 ho).2
    have s0 : M.m_starts 0 = 0 := hA.2.2.2.1.2.2
    cases hpa : zq_pAll (zq_bt S) S.tp_size with
    | error e =>
      obtain ⟨c', S', r1, r2, r3, r4, r5⟩ := w1 e hpa
      obtain ⟨M', m1, m2, m3, m4⟩ := p1 e hpa
      have q := zq_KF_ka m4
      exact zq_ask_err hA hk h3 ho r2 r3 r1 r4 r5 (M' := M') q.1 ⟨m2, m3⟩ ⟨q.2.1, q.2.2.1⟩ (by rw [eM, zq_mb2_eq m1, if_pos (by decide)])
    | ok os =>
      obtain ⟨c', S', ns, cl, n1, n2, n3, n4, n5⟩ := w2 os hpa
      obtain ⟨M1, m1, m2, m3⟩ := p2 os hpa
      have q1 := zq_KF_ka m3
      have hOW := zq_pAll_ok (zq_bt_T (zq_RT_tpI hT)) hT.2.1.1 hpa
      -- the second pass
      have hMB1 : zq_MB (zq_bt S) S.tp_size 1 (MS.w_m_works M1 1) := by
        obtain ⟨y1, y2, y3, y4, y5, y6, y7⟩ := m2
        exact ⟨y1, y2, y3, y4, y5, rfl, Or.inr rfl⟩
      have hC1 : zq_CX lb c.N (zq_mpts M) a1 a2 W M1 := zq_CX_KF (show zq_CX lb c.N (zq_mpts M) a1 a2 W (MS.w_m_works (zq_aM M a1 a2 a3) 0) from hCX) m3
      have hs1 : M1.m_starts 0 = 0 := by
        have := q1.1
        unfold zq_ka at this
        simp only [Prod.mk.injEq] at this
        have e := this.2.2.2.2.2.2.2.2.2.2.2.2.2.2
        rw [e]; exact s0
      have hJ0 : zq_J1 (zq_bt S) S.tp_size lb c.N (zq_mpts M) a1 a2 W (MS.w_m_wants (MS.w_m_to (MS.w_m_open (MS.w_m_signCount (MS.w_m_pile (MS.w_m_works M1 1) 0) 0) 0) 0) 1) [] := ⟨⟨hC1, rfl, hs1, fun pre t post e => by simp at e⟩, by simp⟩
      obtain ⟨-, rq⟩ := zq_r_question (zq_sem1 (zq_bt S) S.tp_size lb c.N (zq_mpts M) a1 a2 W) (fun z => absurd z (by decide)) hMB1 hJ0 rfl
      obtain ⟨rqe, rqo⟩ := rq os hpa
      obtain ⟨nr1, nr2⟩ := zq_rO_nrun (zq_bt S) lb (zq_mpts M) a1 a2 W os [] (zq_OW_pl hOW.1)
      rcases n5 with ⟨z1, z2, z3, z4⟩ | ⟨z1, z2, z3, z4, z5, z6⟩
      · -- a clash
        have he := nr2 [ns] cl z1 n1
        obtain ⟨M2, k1, k2, k3, k4⟩ := rqe _ he
        have q2 := zq_KF_ka k4
        have ek : zq_ka M2 = zq_ka M := q2.1.trans q1.1
        refine zq_ask_err hA hk h3 ho n3 n4 z2 (e := (5, cl)) z3 z4 (M' := M2) ek ⟨k2, k3⟩ ⟨?_, ?_⟩ (by rw [eM, zq_mb2_eq m1, if_neg (by decide), zq_mb2_eq k1, if_pos (by decide)])
        · rw [q2.2.1]; exact q1.2.1
        · rw [q2.2.2.1]; exact q1.2.2.1
      · -- a table
        subst z1
        obtain ⟨st', hst, hmap⟩ := nr1 [ns] n1
        obtain ⟨t, rfl⟩ : ∃ t, st' = [t] := by
          match st', hmap with
          | [t], _ => exact ⟨t, rfl⟩
        have htn : t.1 = ns := by simpa using hmap
        obtain ⟨M2, k1, k2, k3, k4⟩ := rqo [t] hst
        have q2 := zq_KF_ka k4
        have ek : zq_ka M2 = zq_ka M := q2.1.trans q1.1
        obtain ⟨rl, rt, sh, is, vl, ks, x1, x2, x3, x4, x5, x6⟩ := zq_r_keep k3 k2.1
        obtain ⟨c9, S9, Ks, y1, y2, y3, y4, y5, y6, y7, y8, y9, y10, y11, y12, y13, ⟨L, y14, y14'⟩, y15, y16⟩ := zq_ask_run hA hk h3 ho hW hlb hpa n1 n3 z2 z3 z4 z5 z6 hst htn
        have eks : ks = (zq_KT Ks ns).filter (zq_neK W t.2) := by
          refine zq_srt_eq _ _ x3 (y9.filter _) (fun kk => ?_)
          rw [x5, List.mem_filter, zq_neK_iff]
          constructor
          · rintro ⟨v, v1, v2⟩
            exact ⟨Classical.byContradiction (fun q => v2 (y11 kk v q v1)), v, v1, v2⟩
          · exact fun z => z.2
        rw [← eks] at y1 y15 y16
        rw [htn] at x1 x4 x6
        have hM3 : s_Mo_ask M a1 a2 a3 = some ((ks.length : Int), MS.w_m_length (zq_ktw (MS.w_m_shownWindows (MS.w_m_rows (MS.w_m_names (MS.w_m_isTable M2 1) ns.length) (ks.length : Nat)) W) rl rt sh is vl) 0) := by
          rw [eM, zq_mb2_eq m1, if_neg (by decide), zq_mb2_eq k1, if_neg (by decide), q_Mo_ask_111, if_neg (by decide), zq_mb2_eq x1, q_Mo_ask_122, if_neg (by decide)]; rfl
        have hcode : M2.m_code = 0 := by rw [q2.2.1]; exact q1.2.1
        refine ⟨0, _, c9, S9, _, _, 0, MS.w_m_length (zq_ktw (MS.w_m_shownWindows (MS.w_m_rows (MS.w_m_names (MS.w_m_isTable M2 1) ns.length) (ks.length : Nat)) W) rl rt sh is vl) 0, y1, hM3, ?_, Or.inl ⟨rfl, by decide, rfl⟩, ?_⟩
        · exact congrArg (fun z : Int => some (z, MS.w_m_length (zq_ktw (MS.w_m_shownWindows (MS.w_m_rows (MS.w_m_names (MS.w_m_isTable M2 1) ns.length) (ks.length : Nat)) W) rl rt sh is vl) 0)) hcode
        · have hfl := k3.2.2.2.2.1
          have h6 : ns.length ≤ 6 := by
            have := (k2.1.2.2.2 [] t [] rfl).1.2.1.2
            rw [htn] at this; exact this
          have hgd := y14.2.2.2.2
          have hnm := y14.2.2.2.1
          have hwn : S9.gd_windows (S9.ev_stack 0) = W := y14.1
          have hNN : c9.N = c.N := by
            have e1 := y7.1.2; have e2 := hlb.1.2; omega
          have hksl : ks.length ≤ (zq_KT Ks ns).length := by rw [eks]; exact List.length_filter_le _ _
          refine zq_RA_new (M9 := MS.w_m_length (zq_ktw (MS.w_m_shownWindows (MS.w_m_rows (MS.w_m_names (MS.w_m_isTable M2 1) ns.length) (ks.length : Nat)) W) rl rt sh is vl) 0) hA hk ek ⟨rfl, y3⟩ y2 y4 ⟨by rw [y5.1]; exact hfl.1.symm, by rw [y5.2.1]; exact hfl.2.symm⟩ y6 y7 (Or.inr ⟨⟨y5.2.2, rfl, y6.1 0 (by omega) (by omega)⟩, ⟨y12, by show (0 : Int) ≤ (ns.length : Int); omega, by show (ns.length : Int) ≤ 6; omega⟩, ⟨y15, by show (0 : Int) ≤ (ks.length : Int); omega, by show (ks.length : Int) ≤ 256; omega⟩, ⟨hwn, by show (1 : Int) ≤ (W : Int); have := ho.2.2; omega, by show (W : Int) ≤ 64; have := ho.2.2; omega⟩, fun r w r0 r1 w0 w1 => ?_, fun z => ?_, fun r n' r0 r1 n0 n1' => ?_⟩) y8
          · -- cells
            have r1' : r < (ks.length : Int) := r1
            have w1' : w < (W : Int) := w1
            obtain ⟨rr, rfl⟩ : ∃ rr : Nat, r = rr := ⟨r.toNat, by omega⟩
            obtain ⟨ww, rfl⟩ : ∃ ww : Nat, w = ww := ⟨w.toNat, by omega⟩
            have hrr : rr < ks.length := by omega
            have hww : ww < W := by omega
            have hkk : ks[rr]? = some (ks[rr]'hrr) := List.getElem?_eq_getElem _
            have g1 := (y16 rr _ hkk).1 ww hww
            have g2 := (x6 rr _ hrr hkk).2 ww hww
            have ep : zq_plG S9 (S9.ev_stack 0) rr ww = (rr : Int) * W + ww := by
              unfold zq_plG
              rcases hnm with ⟨b1, b2⟩ | b1
              · have b1' : S9.gd_named (S9.ev_stack 0) = 0 := b1
                have : rr = 0 := by omega
                subst this
                rw [b1', if_pos (by decide)]; simp
              · have b1' : S9.gd_named (S9.ev_stack 0) = 1 := b1
                rw [b1', if_neg (by decide), hwn]
            have hp := zq_ix_in (W := W) (L := L) (r := rr) (by omega) hww
            rw [ep]
            have c1 := zq_gcl_0 g1
            have c2 := zq_gcl_0 g2
            refine ⟨⟨hp.1, by rw [hgd.2.1]; omega, by omega⟩, c1.1.trans c2.1.symm, fun z => ?_⟩
            have hne : t.2 (ks[rr]'hrr) ww ≠ none := fun q => z (c1.1.mpr q)
            exact Option.some.inj ((c1.2 hne).trans (c2.2 hne).symm)
          · have hns : ns ≠ [] := fun q => by
              have z' : (0 : Int) < (ns.length : Int) := z
              rw [q] at z'; simp at z'
            rw [y13 hns]
            exact ⟨by show (ks.length : Int) ≤ _; omega, by omega⟩
          · -- texts
            have r1' : r < (ks.length : Int) := r1
            have n1'' : n' < (ns.length : Int) := n1'
            obtain ⟨rr, rfl⟩ : ∃ rr : Nat, r = rr := ⟨r.toNat, by omega⟩
            obtain ⟨nn, rfl⟩ : ∃ nn : Nat, n' = nn := ⟨n'.toNat, by omega⟩
            have hrr : rr < ks.length := by omega
            have hnn : nn < ns.length := by omega
            have hns : ns ≠ [] := fun q => by rw [q] at hnn; simp at hnn
            have hkk : ks[rr]? = some (ks[rr]'hrr) := List.getElem?_eq_getElem _
            obtain ⟨i, i1, i2, i3, i4⟩ := (y16 rr _ hkk).2 hns
            have hy : ns[nn]? = some (ns[nn]'hnn) := List.getElem?_eq_getElem _
            have hgl := i4 nn _ hy
            have hkey : (ks[rr]'hrr)[nn]? = some (zq_vOf (lb i) (zq_nmx (zq_bt S) (ns[nn]'hnn))) := by
              rw [← i3]; unfold zq_keyOf; rw [List.getElem?_map, hy]; rfl
            have hrb := (x6 rr _ hrr hkk).1 nn _ hnn hkey
            exact ⟨i, _, _, i2, i1, rfl, hgl, hrb.1, hrb.2⟩
set_option maxRecDepth 100000 in
theorem zq_pgoal : PG := ⟨zq_RA, zq_p_start, fun k c S M hk h => zq_RA_none hk h, zq_p_feed, zq_p_end, zq_p_series, zq_p_fault, zq_p_letter, zq_p_append, zq_p_bulk, zq_p_delete, zq_p_retain, zq_p_ask, zq_p_names, zq_p_text, zq_p_isThere, zq_p_cell, zq_p_last, zq_p_pack, zq_p_count⟩
