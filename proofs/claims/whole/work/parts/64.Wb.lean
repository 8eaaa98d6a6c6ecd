set_option maxRecDepth 100000 in
theorem zq_e_isMS {v : Int} (h : -1 ≤ v ∧ v ≤ 400) : s_QR_isMatchSign v = some (if zq_isMS v then 1 else 0) := by
  rw [s_QR_isMatchSign, zq_w32i (z := v) (by omega) (by omega)]
  unfold zq_isMS q_QR_isMatchSign_27
  by_cases c1 : v = 61
  · rw [if_pos c1]; simp [c1]
  by_cases c2 : v = 305
  · rw [if_neg c1, if_pos c2]; simp [c2]
  by_cases c3 : v = 306
  · rw [if_neg c1, if_neg c2, if_pos c3]; simp [c3]
  by_cases c4 : v = 307
  · rw [if_neg c1, if_neg c2, if_neg c3, if_pos c4]; simp [c4]
  rw [if_neg c1, if_neg c2, if_neg c3, if_neg c4]; simp [c1, c2, c3, c4]
set_option maxRecDepth 100000 in
theorem zq_QS_kind {T : Int → Int} {n : Int} {S : WS} {s : zq_PR Int} (hT : zq_tpT T n) (h : zq_QS T n S s) : -1 ≤ S.lx_kind ∧ S.lx_kind ≤ 400 := by
  cases s with
  | error e => have := h.1.1; omega
  | ok p => have := (show zq_LV T n S p from h).2.1.1; have := zq_tK_R hT p; omega
set_option maxRecDepth 100000 in
/-- the sign of a match -/
def zq_pSign (T : Int → Int) (n q : Int) : zq_PR Int := if zq_isMS (zq_tK T n q) then zq_pAdv T n q else .error (2, zq_tA T n q)
set_option maxRecDepth 100000 in
theorem zq_w_sign {k : Nat} {T : Int → Int} {n : Int} {c : CW} {S : WS} {L : List Int} (h : zq_PB k T n c S L) {s : zq_PR Int} (hs : zq_QS T n S s) : ∃ S1, s_QR_take c S (if zq_isMS S.lx_kind then S.lx_kind else 61) = some ((), S1) ∧ zq_PB k T n c S1 L ∧ zq_FR c S c S1 ∧ zq_QS T n S1 (zq_pbd s (zq_pSign T n)) ∧ zq_BD S S1 0 ∧ (∀ p q, s = .ok p → zq_pSign T n p = .ok q → zq_BD S S1 (-3)) := by
  cases s with
  | error e =>
    have e1 : (if zq_isMS S.lx_kind then S.lx_kind else 61) = 61 := by rw [hs.1.1]; decide
    rw [e1]
    obtain ⟨S1, a1, a2, a3, a4, a5, a6⟩ := zq_w_take2 h hs (v := 61) (by omega)
    exact ⟨S1, a1, a2, a3, a4, a5, fun p q z => by cases z⟩
  | ok p =>
    have hl : zq_LV T n S p := hs
    rw [hl.2.1.1]
    by_cases c1 : zq_isMS (zq_tK T n p) = true
    · rw [if_pos c1]
      have hv : 0 ≤ zq_tK T n p ∧ zq_tK T n p ≤ 400 ∧ zq_tK T n p ≠ 300 ∧ zq_tK T n p ≠ 301 := by
        unfold zq_isMS at c1; simp at c1; omega
      obtain ⟨S1, a1, a2, a3, a4, a5, a6⟩ := zq_w_take2 h hs hv
      have e : zq_pTake T n (zq_tK T n p) p = zq_pSign T n p := by rw [zq_pTake, if_pos rfl, zq_pSign, if_pos c1]
      refine ⟨S1, a1, a2, a3, ?_, a5, fun p' q z1 z2 => ?_⟩
      · show zq_QS T n S1 (zq_pSign T n p); rw [← e]; exact a4
      · cases z1; exact a6 p q rfl (by rw [e]; exact z2)
    · rw [if_neg c1]
      obtain ⟨S1, a1, a2, a3, a4, a5, a6⟩ := zq_w_take2 h hs (v := 61) (by omega)
      have n61 : zq_tK T n p ≠ 61 := by intro z; exact c1 (by rw [z]; decide)
      have e : zq_pTake T n 61 p = zq_pSign T n p := by rw [zq_pTake, if_neg n61, zq_pSign, if_neg c1]
      refine ⟨S1, a1, a2, a3, ?_, a5, fun p' q z1 z2 => ?_⟩
      · show zq_QS T n S1 (zq_pSign T n p); rw [← e]; exact a4
      · cases z1; exact a6 p q rfl (by rw [e]; exact z2)
set_option maxRecDepth 100000 in
theorem zq_pMatch_1 (T : Int → Int) (n p : Int) : zq_pbd (zq_pMatch T n p) (fun y => .ok y.1) = zq_pbd (zq_pbd (zq_pTake T n 303 p) (zq_pSign T n)) (zq_pTake T n 304) := by
  unfold zq_pMatch zq_pSign
  cases h1 : zq_pTake T n 303 p with
  | error e => rfl
  | ok q =>
    show zq_pbd (if zq_isMS (zq_tK T n q) then _ else _) _ = zq_pbd (if zq_isMS (zq_tK T n q) then _ else _) _
    by_cases c1 : zq_isMS (zq_tK T n q) = true
    · rw [if_pos c1, if_pos c1]
      cases h2 : zq_pAdv T n q with
      | error e => rfl
      | ok r =>
        show zq_pbd (zq_pbd (zq_pTake T n 304 r) _) _ = zq_pTake T n 304 r
        cases zq_pTake T n 304 r <;> rfl
    · rw [if_neg c1, if_neg c1]; rfl
set_option maxRecDepth 100000 in
theorem zq_pMatch_2 {T : Int → Int} {n p : Int} {y : Int × zq_MT} (h : zq_pMatch T n p = .ok y) : ∃ q r, zq_pTake T n 303 p = .ok q ∧ zq_pSign T n q = .ok r ∧ zq_pTake T n 304 r = .ok y.1 ∧ y.2 = ((zq_tA T n p, zq_tB T n p - zq_tA T n p), zq_tK T n q, (zq_tA T n r + 1, zq_tB T n r - 1 - (zq_tA T n r + 1))) := by
  unfold zq_pMatch at h
  cases h1 : zq_pTake T n 303 p with
  | error e => rw [h1] at h; cases h
  | ok q =>
    rw [h1] at h
    have h : (if zq_isMS (zq_tK T n q) then zq_pbd (zq_pAdv T n q) (fun r => zq_pbd (zq_pTake T n 304 r) (fun s => .ok (s, ((zq_tA T n p, zq_tB T n p - zq_tA T n p), zq_tK T n q, (zq_tA T n r + 1, zq_tB T n r - 1 - (zq_tA T n r + 1)))))) else .error (2, zq_tA T n q)) = Except.ok y := h
    by_cases c1 : zq_isMS (zq_tK T n q) = true
    · rw [if_pos c1] at h
      cases h2 : zq_pAdv T n q with
      | error e => rw [h2] at h; cases h
      | ok r =>
        rw [h2] at h
        cases h3 : zq_pTake T n 304 r with
        | error e =>
          have h : zq_pbd (zq_pTake T n 304 r) (fun s => .ok (s, ((zq_tA T n p, zq_tB T n p - zq_tA T n p), zq_tK T n q, (zq_tA T n r + 1, zq_tB T n r - 1 - (zq_tA T n r + 1))))) = Except.ok y := h
          rw [h3] at h; cases h
        | ok s =>
          have h : zq_pbd (zq_pTake T n 304 r) (fun s => .ok (s, ((zq_tA T n p, zq_tB T n p - zq_tA T n p), zq_tK T n q, (zq_tA T n r + 1, zq_tB T n r - 1 - (zq_tA T n r + 1))))) = Except.ok y := h
          rw [h3] at h; cases h
          exact ⟨q, r, rfl, by rw [zq_pSign, if_pos c1, h2], h3, rfl⟩
    · rw [if_neg c1] at h; cases h
set_option maxRecDepth 100000 in
/-- one match is read -/
theorem zq_w_match1 {k : Nat} {T : Int → Int} {n : Int} {P : List Int} {kd : Int} {ns : List zq_NM} {c : CW} {S : WS} {ms : List zq_MT} {s : zq_PR Int} (h : zq_PB k T n c S (zq_frc P kd ns ms)) (hs : zq_QS T n S s) (ho : zq_okN n ns) (hz : S.pg_size ≤ 3 * S.lx_at + 20) {R : Option (Unit × CW × WS)} (kk : CW → Int → Int → Int → WS → Option (Unit × CW × WS)) (v3 : Int) :
    ∃ c' S' x, mb2 (s_Pg_addMatch c S (P.length : Int)) (fun r23 S23 => mb2 (s_Lx_at c S23 ) (fun r24 S24 => mb2 (s_Lx_behind c S24 ) (fun r25 S25 => mb3 (s_Pg_addSlice c S25 r24 r25) (fun r26 e26 S26 => mb2 (s_QR_take e26 S26 303) (fun r27 S27 => mb2 (s_Lx_kind e26 S27 ) (fun r28 S28 => mb3 (s_Pg_add e26 S28 r28) (fun r29 e29 S29 => mb2 (s_Lx_kind e29 S29 ) (fun r30 S30 => mb1 (s_QR_isMatchSign r30) (fun r31 => if w32 r31 = 0 then q_QR_readMatches_94 kk e29 (P.length : Int) v3 61 S30 else mb2 (s_Lx_kind e29 S30 ) (fun r33 S33 => q_QR_readMatches_94 kk e29 (P.length : Int) v3 r33 S33)))))))))) = mb2 (s_QR_takeComma c' S') (fun r39 S39 => kk c' (P.length : Int) r39 (v3 + (-1)) S39) ∧ zq_PB k T n c' S' (zq_frc P kd ns (ms ++ [x])) ∧ zq_FR c S c' S' ∧ zq_QS T n S' (zq_pbd s (fun p => zq_pbd (zq_pMatch T n p) (fun y => .ok y.1))) ∧ zq_BD S S' 5 ∧ (∀ p y, s = .ok p → zq_pMatch T n p = .ok y → x = y.2 ∧ zq_BD S S' (-4)) := by
  have hT := zq_PB_T h
  have hat := zq_QS_at hs
  have hn := h.2.1.2.2.2
  have hsz := h.2.2.2.1
  have hlen := zq_frc_len P kd ns ms
  have g3 : (zq_frc P kd ns ms)[P.length + 3]? = some (ms.length : Int) := by
    unfold zq_frc; exact zq_get_app (i := 3)
  obtain ⟨o1, z1, u1, u2⟩ := zq_w_countUp h g3
  have u3 : s_Pg_addMatch c S (P.length : Int) = some ((), zq_ow S o1 z1) := by
    rw [s_Pg_addMatch, show (P.length : Int) + 3 = ((P.length + 3 : Nat) : Int) by omega]; exact zq_mb2_eq u1
  have q1 := zq_QS_ow (S := S) o1 z1 hs
  have l1 : ((zq_frc P kd ns ms).set (P.length + 3) ((ms.length : Int) + 1)).length = (zq_frc P kd ns ms).length := List.length_set
  obtain ⟨c2, o2, z2, v1, v2, v3'⟩ := zq_w_pgadd2 u2 (by rw [l1]; omega) S.lx_at S.lx_behind
  have q2 := zq_QS_ow (S := zq_ow S o1 z1) o2 z2 q1
  obtain ⟨S3, t1, t2, t3, t4, t5, t6⟩ := zq_w_take2 v2 q2 (v := 303) (by omega)
  obtain ⟨c4, o4, z4, w1, w2, w3⟩ := zq_w_pgadd t2 (by rw [List.length_append, l1]; simp; omega) S3.lx_kind
  have q4 := zq_QS_ow (S := S3) o4 z4 t4
  obtain ⟨S5, y1, y2, y3, y4, y5, y6⟩ := zq_w_sign w2 q4
  obtain ⟨c6, o6, z6, a1, a2, a3⟩ := zq_w_pgadd2 y2 (by rw [List.length_append, List.length_append, l1]; simp; omega) (S5.lx_at + 1) (S5.lx_behind - 1)
  have q6 := zq_QS_ow (S := S5) o6 z6 y4
  obtain ⟨S7, b1, b2, b3, b4, b5, b6⟩ := zq_w_take2 a2 q6 (v := 304) (by omega)
  have eL : (zq_frc P kd ns ms).set (P.length + 3) ((ms.length : Int) + 1) ++ [S.lx_at, S.lx_behind - S.lx_at] ++ [S3.lx_kind] ++ [S5.lx_at + 1, S5.lx_behind - 1 - (S5.lx_at + 1)] = zq_frc P kd ns (ms ++ [((S.lx_at, S.lx_behind - S.lx_at), S3.lx_kind, (S5.lx_at + 1, S5.lx_behind - 1 - (S5.lx_at + 1)))]) := by
    rw [← zq_frc_addM]; simp
  rw [eL] at b2
  have hF : zq_FR c S c6 S7 := zq_FR_trans (zq_FR_ow S o1 z1 ⟨c.oc, c.bc, c.bs, rfl⟩) (zq_FR_trans (zq_FR_ow (zq_ow S o1 z1) o2 z2 v3') (zq_FR_trans t3 (zq_FR_trans (zq_FR_ow S3 o4 z4 w3) (zq_FR_trans y3 (zq_FR_trans (zq_FR_ow S5 o6 z6 a3) b3)))))
  have f1 : S7.pg_size = S.pg_size + 5 := by
    rw [b2.2.2.2.1, hsz, zq_frc_len, zq_frc_len]; simp; omega
  have e0 : (zq_ow (zq_ow S o1 z1) o2 z2).lx_at = S.lx_at := rfl
  have e1 : (zq_ow S3 o4 z4).lx_at = S3.lx_at := rfl
  have e2 : (zq_ow S5 o6 z6).lx_at = S5.lx_at := rfl
  have k0 : (zq_ow (zq_ow S o1 z1) o2 z2).qr_clashPlace = S.qr_clashPlace := rfl
  have k1 : (zq_ow S3 o4 z4).qr_clashPlace = S3.qr_clashPlace := rfl
  have k2 : (zq_ow S5 o6 z6).qr_clashPlace = S5.qr_clashPlace := rfl
  have m1 := t5.1; have m2 := y5.1; have m3 := b5.1
  rw [e0] at m1; rw [e1] at m2; rw [e2] at m3
  refine ⟨c6, S7, ((S.lx_at, S.lx_behind - S.lx_at), S3.lx_kind, (S5.lx_at + 1, S5.lx_behind - 1 - (S5.lx_at + 1))), ?_, b2, hF, ?_, ⟨by omega, by omega, ?_⟩, fun p y hp hy => ?_⟩
  · refine (zq_mb2_eq u3).trans ?_
    refine (zq_mb2_eq (show s_Lx_at c (zq_ow S o1 z1) = some (S.lx_at, zq_ow S o1 z1) from rfl)).trans ?_
    refine (zq_mb2_eq (show s_Lx_behind c (zq_ow S o1 z1) = some (S.lx_behind, zq_ow S o1 z1) from rfl)).trans ?_
    refine (zq_mb3_eq v1).trans ?_
    refine (zq_mb2_eq t1).trans ?_
    refine (zq_mb2_eq (show s_Lx_kind c2 S3 = some (S3.lx_kind, S3) from rfl)).trans ?_
    refine (zq_mb3_eq w1).trans ?_
    refine (zq_mb2_eq (show s_Lx_kind c4 (zq_ow S3 o4 z4) = some (S3.lx_kind, zq_ow S3 o4 z4) from rfl)).trans ?_
    have hk := zq_QS_kind hT t4
    refine (zq_mb1_eq (zq_e_isMS hk)).trans ?_
    have tail : ∀ v, s_QR_take c4 (zq_ow S3 o4 z4) v = some ((), S5) → q_QR_readMatches_94 kk c4 (P.length : Int) v3 v (zq_ow S3 o4 z4) = mb2 (s_QR_takeComma c6 S7) (fun r39 S39 => kk c6 (P.length : Int) r39 (v3 + (-1)) S39) := by
      intro v hv
      rw [q_QR_readMatches_94]
      refine (zq_mb2_eq hv).trans ?_
      refine (zq_mb2_eq (show s_Lx_at c4 S5 = some (S5.lx_at, S5) from rfl)).trans ?_
      refine (zq_mb2_eq (show s_Lx_behind c4 S5 = some (S5.lx_behind, S5) from rfl)).trans ?_
      refine (zq_mb3_eq a1).trans ?_
      exact zq_mb2_eq b1
    by_cases c1 : zq_isMS S3.lx_kind = true
    · rw [if_pos c1, if_neg (by decide)]
      refine (zq_mb2_eq (show s_Lx_kind c4 (zq_ow S3 o4 z4) = some (S3.lx_kind, zq_ow S3 o4 z4) from rfl)).trans ?_
      exact tail _ (by rw [show (if zq_isMS (zq_ow S3 o4 z4).lx_kind then (zq_ow S3 o4 z4).lx_kind else 61) = S3.lx_kind from if_pos c1] at y1; exact y1)
    · rw [if_neg c1, if_pos (by decide)]
      exact tail _ (by rw [show (if zq_isMS (zq_ow S3 o4 z4).lx_kind then (zq_ow S3 o4 z4).lx_kind else 61) = 61 from if_neg c1] at y1; exact y1)
  · cases s with
    | error e => exact b4
    | ok p =>
      show zq_QS T n S7 (zq_pbd (zq_pMatch T n p) (fun y => .ok y.1))
      rw [zq_pMatch_1]; exact b4
  · have := t5.2.2; have := y5.2.2; have := b5.2.2; omega
  · obtain ⟨q, r, h1, h2, h3, h4⟩ := zq_pMatch_2 hy
    subst hp
    have t4' : zq_LV T n S3 q := by rw [show zq_pbd (Except.ok p) (zq_pTake T n 303) = zq_pTake T n 303 p from rfl, h1] at t4; exact t4
    have y4' : zq_LV T n S5 r := by
      rw [show zq_pbd (zq_pbd (Except.ok p) (zq_pTake T n 303)) (zq_pSign T n) = zq_pbd (zq_pTake T n 303 p) (zq_pSign T n) from rfl, h1, show zq_pbd (Except.ok q) (zq_pSign T n) = zq_pSign T n q from rfl, h2] at y4
      exact y4
    have hl : zq_LV T n S p := hs
    have d1 := (t6 p q rfl h1).2.1
    have d2 := (y6 q r (by exact h1) h2).2.1
    have zq_d3 := (b6 r y.1 (by show zq_pbd (zq_pbd (Except.ok p) (zq_pTake T n 303)) (zq_pSign T n) = _; rw [show zq_pbd (Except.ok p) (zq_pTake T n 303) = zq_pTake T n 303 p from rfl, h1]; exact h2) h3).2.1
    have n1 := v2.2.2.2.1; have n2 := t2.2.2.2.1; have n3 := w2.2.2.2.1; have n4 := y2.2.2.2.1; have n5 := a2.2.2.2.1; have n6 := b2.2.2.2.1
    rw [zq_frc_len] at n6
    simp only [List.length_append, l1, List.length_cons, List.length_nil, zq_frc_len] at n1 n2 n3 n4 n5 n6
    rw [zq_frc_len] at hsz
    rw [e0] at d1; rw [e1] at d2; rw [e2] at zq_d3
    refine ⟨?_, by omega, by omega, ?_⟩
    · rw [h4, hl.2.1.2.1, hl.2.1.2.2.1, t4'.2.1.1, y4'.2.1.2.1, y4'.2.1.2.2.1]
    · have := t5.2.2; have := y5.2.2; have := b5.2.2; omega
set_option maxRecDepth 100000 in
theorem zq_E_matches {k : Nat} {T : Int → Int} {n : Int} {P : List Int} {kd : Int} {ns : List zq_NM} (ho : zq_okN n ns) : ∀ (m f : Nat) (c : CW) (S : WS) (ms : List zq_MT) (s : zq_PR Int), m < f → m ≤ 20000 → zq_PB k T n c S (zq_frc P kd ns ms) → zq_QS T n S s → S.pg_size ≤ 3 * S.lx_at + 20 →
    ∃ c' S' ms', q_QR_readMatches_10 f c (P.length : Int) 1 (m : Int) S = some ((), c', S') ∧ zq_PB k T n c' S' (zq_frc P kd ns ms') ∧ zq_FR c S c' S' ∧ zq_QS T n S' (zq_pbd s (fun p => zq_pbd (zq_pMatches T n m ms p) (fun y => .ok y.1))) ∧ zq_BD S S' 5 ∧ (∀ p y, s = .ok p → zq_pMatches T n m ms p = .ok y → ms' = y.2 ∧ zq_BD S S' 0)
  | m, 0, c, S, ms, s => by omega
  | 0, f + 1, c, S, ms, s => by
    intro hf hm h hs hz
    refine ⟨c, S, ms, ?_, h, zq_FR_refl _ _, ?_, zq_BD_le (zq_BD_refl S) (by omega), fun p y z1 z2 => ?_⟩
    · rw [q_QR_readMatches_10, if_pos (by decide)]
    · cases s <;> exact hs
    · rw [zq_pMatches] at z2; cases z2; exact ⟨rfl, zq_BD_refl S⟩
  | m + 1, f + 1, c, S, ms, s => by
    intro hf hm h hs hz
    obtain ⟨c1, S1, x, e1, e2, e3, e4, e5, e6⟩ := zq_w_match1 h hs ho hz (R := none) (q_QR_readMatches_10 f) ((m + 1 : Nat) : Int)
    rw [q_QR_readMatches_10, zq_w32i (z := ((m + 1 : Nat) : Int)) (by omega) (by omega), if_neg (by omega), if_neg (by decide), e1]
    rcases zq_w_takeComma e2 e4 with ⟨S4, t1, ⟨q, tq, tk⟩, t3, t4, t5, t6⟩ | ⟨t1, t2⟩
    · rw [zq_mb2_eq t1]
      rw [show ((m + 1 : Nat) : Int) + (-1) = (m : Int) by omega]
      cases s with
      | error e => cases tq
      | ok p =>
        cases hy : zq_pMatch T n p with
        | error e => rw [show zq_pbd (Except.ok p) (fun p => zq_pbd (zq_pMatch T n p) (fun y => .ok y.1)) = zq_pbd (zq_pMatch T n p) (fun y => .ok y.1) from rfl, hy] at tq; cases tq
        | ok y =>
          have hyq : y.1 = q := by
            rw [show zq_pbd (Except.ok p) (fun p => zq_pbd (zq_pMatch T n p) (fun y => .ok y.1)) = zq_pbd (zq_pMatch T n p) (fun y => .ok y.1) from rfl, hy] at tq
            injection tq
          obtain ⟨ex, eb⟩ := e6 p y rfl hy
          have hB4 := zq_BD_tr eb t6
          have t5' : zq_QS T n S4 (zq_pAdv T n q) := by rw [tq] at t5; exact t5
          obtain ⟨c', S', ms', x1, x2, x3, x5, x6, x7⟩ := zq_E_matches ho m f c1 S4 (ms ++ [x]) (zq_pAdv T n q) (by omega) (by omega) t3 t5' (by have := hB4.2.1; omega)
          have ep : zq_pMatches T n (m + 1) ms p = zq_pbd (zq_pAdv T n q) (fun q => zq_pMatches T n m (ms ++ [x]) q) := by
            rw [zq_pMatches, hy]
            show (if zq_tK T n y.1 = 44 then _ else _) = _
            rw [hyq, if_pos tk, ex]
          refine ⟨c', S', ms', x1, x2, zq_FR_trans e3 (zq_FR_trans t4 x3), ?_, zq_BD_le (zq_BD_tr hB4 x6) (by omega), fun p' y' z1 z2 => ?_⟩
          · show zq_QS T n S' (zq_pbd (zq_pMatches T n (m + 1) ms p) (fun y => .ok y.1))
            rw [ep]
            cases hq : zq_pAdv T n q with
            | error e => rw [hq] at x5; exact x5
            | ok q2 => rw [hq] at x5; exact x5
          · cases z1
            rw [ep] at z2
            cases hq : zq_pAdv T n q with
            | error e => rw [hq] at z2; cases z2
            | ok q2 =>
              rw [hq] at z2
              have := x7 q2 y' hq z2
              exact ⟨this.1, zq_BD_le (zq_BD_tr hB4 this.2) (by omega)⟩
    · rw [zq_mb2_eq t1]
      obtain ⟨g, rfl⟩ : ∃ g, f = g + 1 := ⟨f - 1, by omega⟩
      have ex : q_QR_readMatches_10 (g + 1) c1 (P.length : Int) 0 (((m + 1 : Nat) : Int) + (-1)) S1 = some ((), c1, S1) := by
        rw [q_QR_readMatches_10]
        by_cases z : w32 (((m + 1 : Nat) : Int) + (-1)) ≤ 0
        · rw [if_pos z]
        · rw [if_neg z, if_pos (by decide)]
      refine ⟨c1, S1, ms ++ [x], ex, e2, e3, ?_, e5, fun p y z1 z2 => ?_⟩
      · cases s with
        | error e => exact e4
        | ok p =>
          show zq_QS T n S1 (zq_pbd (zq_pMatches T n (m + 1) ms p) (fun y => .ok y.1))
          rw [zq_pMatches]
          cases hy : zq_pMatch T n p with
          | error e => rw [show zq_pbd (Except.ok p) (fun p => zq_pbd (zq_pMatch T n p) (fun y => .ok y.1)) = zq_pbd (zq_pMatch T n p) (fun y => .ok y.1) from rfl, hy] at e4; exact e4
          | ok y =>
            rw [show zq_pbd (Except.ok p) (fun p => zq_pbd (zq_pMatch T n p) (fun y => .ok y.1)) = zq_pbd (zq_pMatch T n p) (fun y => .ok y.1) from rfl, hy] at e4
            show zq_QS T n S1 (zq_pbd (if zq_tK T n y.1 = 44 then _ else _) _)
            rw [if_neg (t2 y.1 (by rw [show zq_pbd (Except.ok p) (fun p => zq_pbd (zq_pMatch T n p) (fun y => .ok y.1)) = zq_pbd (zq_pMatch T n p) (fun y => .ok y.1) from rfl, hy]; rfl))]
            exact e4
      · subst z1
        rw [zq_pMatches] at z2
        cases hy : zq_pMatch T n p with
        | error e => rw [hy] at z2; cases z2
        | ok y' =>
          rw [hy] at z2
          have z3 : (if zq_tK T n y'.1 = 44 then zq_pbd (zq_pAdv T n y'.1) (fun q => zq_pMatches T n m (ms ++ [y'.2]) q) else .ok (y'.1, ms ++ [y'.2])) = Except.ok y := z2
          rw [if_neg (t2 y'.1 (by rw [show zq_pbd (Except.ok p) (fun p => zq_pbd (zq_pMatch T n p) (fun y => .ok y.1)) = zq_pbd (zq_pMatch T n p) (fun y => .ok y.1) from rfl, hy]; rfl))] at z3
          cases z3
          obtain ⟨ex2, eb⟩ := e6 p y' rfl hy
          exact ⟨by rw [ex2], zq_BD_le eb (by omega)⟩
set_option maxRecDepth 100000 in
theorem zq_pbd_ok {α β : Type} (a : α) (f : α → zq_PR β) : zq_pbd (Except.ok a) f = f a := rfl
set_option maxRecDepth 100000 in
theorem zq_w_sel {k : Nat} {T : Int → Int} {n : Int} {P : List Int} {kd : Int} {ns : List zq_NM} (ho : zq_okN n ns) {c : CW} {S : WS} {s : zq_PR Int} (h : zq_PB k T n c S (zq_frc P kd ns [])) (hs : zq_QS T n S s) (hz : S.pg_size ≤ 3 * S.lx_at + 10) :
    ∃ c' S' ms', q_QR_readFunc_52 c (P.length : Int) S = some (if ns = [] then -1 else (P.length : Int), c', S') ∧ zq_PB k T n c' S' (zq_frc P kd ns ms') ∧ zq_FR c S c' S' ∧ zq_QS T n S' (zq_pbd s (fun p => zq_pbd (zq_pSel T n p) (fun y => .ok y.1))) ∧ zq_BD S S' 5 ∧ (∀ p y, s = .ok p → zq_pSel T n p = .ok y → ms' = y.2.2 ∧ zq_BD S S' (-3)) := by
  have hT := zq_PB_T h
  have hn := h.2.1.2.2.2
  have hn0 := h.2.1.1.1
  have hn1 := h.2.1.2.2.1
  obtain ⟨S1, a1, a2, a3, a4, a5, a6⟩ := zq_w_take2 h hs (v := 40) (by omega)
  obtain ⟨S2, b1, b2, b3, b4, b5, b6⟩ := zq_w_take2 a2 a4 (v := 123) (by omega)
  have hk := zq_QS_kind hT b4
  -- the matches
  have mid : ∃ c3 S3 ms', (if w32 S2.lx_kind = 125 then q_QR_readFunc_81 c (P.length : Int) S2 else mb3 (s_QR_readMatches c S2 (P.length : Int)) (fun r22 e22 S22 => q_QR_readFunc_81 e22 (P.length : Int) S22)) = q_QR_readFunc_81 c3 (P.length : Int) S3 ∧ zq_PB k T n c3 S3 (zq_frc P kd ns ms') ∧ zq_FR c S2 c3 S3 ∧ zq_QS T n S3 (zq_pbd (zq_pbd (zq_pbd s (zq_pTake T n 40)) (zq_pTake T n 123)) (fun q1 => zq_pbd (if zq_tK T n q1 = 125 then .ok (q1, []) else zq_pMatches T n n.toNat [] q1) (fun y => .ok y.1))) ∧ zq_BD S2 S3 5 ∧ (∀ q1 y, zq_pbd (zq_pbd s (zq_pTake T n 40)) (zq_pTake T n 123) = .ok q1 → (if zq_tK T n q1 = 125 then .ok (q1, []) else zq_pMatches T n n.toNat [] q1) = .ok y → ms' = y.2 ∧ zq_BD S2 S3 0) := by
    have go : S2.lx_kind ≠ 125 → ∃ c3 S3 ms', (if w32 S2.lx_kind = 125 then q_QR_readFunc_81 c (P.length : Int) S2 else mb3 (s_QR_readMatches c S2 (P.length : Int)) (fun r22 e22 S22 => q_QR_readFunc_81 e22 (P.length : Int) S22)) = q_QR_readFunc_81 c3 (P.length : Int) S3 ∧ zq_PB k T n c3 S3 (zq_frc P kd ns ms') ∧ zq_FR c S2 c3 S3 ∧ zq_QS T n S3 (zq_pbd (zq_pbd (zq_pbd s (zq_pTake T n 40)) (zq_pTake T n 123)) (fun p => zq_pbd (zq_pMatches T n n.toNat [] p) (fun y => .ok y.1))) ∧ zq_BD S2 S3 5 ∧ (∀ p y, zq_pbd (zq_pbd s (zq_pTake T n 40)) (zq_pTake T n 123) = .ok p → zq_pMatches T n n.toNat [] p = .ok y → ms' = y.2 ∧ zq_BD S2 S3 0) := by
      intro hne
      obtain ⟨c3, S3, ms', x1, x2, x3, x4, x5, x6⟩ := zq_E_matches (k := k) (T := T) (P := P) (kd := kd) ho n.toNat fU c S2 [] _ (zq_fU_gt (by omega)) (by omega) b2 b4 (by have := a5.2.1; have := b5.2.1; omega)
      refine ⟨c3, S3, ms', ?_, x2, x3, x4, x5, x6⟩
      rw [zq_w32i (z := S2.lx_kind) (by omega) (by omega), if_neg hne, s_QR_readMatches]
      have e2 : S2.tp_size = n := b2.2.1.2.2.1
      have : mb2 (s_Tp_size c S2) (fun r40 S40 => q_QR_readMatches_10 fU c (P.length : Int) 1 r40 S40) = some ((), c3, S3) := by
        refine (zq_mb2_eq (zq_e_size c S2)).trans ?_
        rw [e2, show n = ((n.toNat : Nat) : Int) by omega]; exact x1
      exact zq_mb3_eq this
    cases hq : zq_pbd (zq_pbd s (zq_pTake T n 40)) (zq_pTake T n 123) with
    | error e =>
      have b4' := b4
      rw [hq] at b4'
      obtain ⟨c3, S3, ms', x1, x2, x3, x4, x5, x6⟩ := go (by have := b4'.1.1; omega)
      refine ⟨c3, S3, ms', x1, x2, x3, ?_, x5, fun q1 y z => by cases z⟩
      rw [hq] at x4; exact x4
    | ok q1 =>
      have b4' := b4
      rw [hq] at b4'
      have hl : zq_LV T n S2 q1 := b4'
      by_cases c1 : zq_tK T n q1 = 125
      · refine ⟨c, S2, [], ?_, b2, zq_FR_refl _ _, ?_, zq_BD_le (zq_BD_refl _) (by omega), fun q y z1 z2 => ?_⟩
        · rw [hl.2.1.1, c1, if_pos (by decide)]
        · rw [zq_pbd_ok, if_pos c1]; exact b4'
        · cases z1; rw [if_pos c1] at z2; cases z2; exact ⟨rfl, zq_BD_refl _⟩
      · obtain ⟨c3, S3, ms', x1, x2, x3, x4, x5, x6⟩ := go (by rw [hl.2.1.1]; exact c1)
        refine ⟨c3, S3, ms', x1, x2, x3, ?_, x5, fun q y z1 z2 => ?_⟩
        · rw [zq_pbd_ok, if_neg c1]; rw [hq] at x4; exact x4
        · cases z1; rw [if_neg c1] at z2
          exact x6 q1 y hq z2
  obtain ⟨c3, S3, ms', m1, m2, m3, m4, m5, m6⟩ := mid
  obtain ⟨S4, d1, d2, zq_d3, d4, d5, d6⟩ := zq_w_take2 m2 m4 (v := 125) (by omega)
  obtain ⟨S5, f1, f2, f3, f4, f5, f6⟩ := zq_w_take2 d2 d4 (v := 41) (by omega)
  refine ⟨c3, S5, ms', ?_, f2, zq_FR_trans a3 (zq_FR_trans b3 (zq_FR_trans m3 (zq_FR_trans zq_d3 f3))), ?_, zq_BD_le (zq_BD_tr a5 (zq_BD_tr b5 (zq_BD_tr m5 (zq_BD_tr d5 f5)))) (by omega), fun p y hp hy => ?_⟩
  · rw [q_QR_readFunc_52, zq_mb2_eq a1, zq_mb2_eq b1]
    refine (zq_mb2_eq (show s_Lx_kind c S2 = some (S2.lx_kind, S2) from rfl)).trans ?_
    rw [m1, q_QR_readFunc_81, zq_mb2_eq d1, zq_mb2_eq f1, zq_mb2_eq (zq_w_namesOf f2 (zq_frc_NR ho.1 ho.2)), zq_w32i (z := (ns.length : Int)) (by have := ho.2; omega) (by have := ho.2; omega)]
    cases ns with
    | nil => rw [if_pos (by simp), if_pos rfl]
    | cons x r => rw [if_neg (show ¬ (((x :: r).length : Nat) : Int) ≤ 0 by simp only [List.length_cons]; omega), if_neg (by simp)]
  · have e : ∀ p, zq_pbd (zq_pSel T n p) (fun y => .ok y.1) = zq_pbd (zq_pbd (zq_pbd (zq_pbd (zq_pTake T n 40 p) (zq_pTake T n 123)) (fun q1 => zq_pbd (if zq_tK T n q1 = 125 then .ok (q1, []) else zq_pMatches T n n.toNat [] q1) (fun y => .ok y.1))) (zq_pTake T n 125)) (zq_pTake T n 41) := by
      intro p
      unfold zq_pSel
      cases zq_pTake T n 40 p with
      | error e => rfl
      | ok q0 =>
        rw [zq_pbd_ok, zq_pbd_ok]
        cases zq_pTake T n 123 q0 with
        | error e => rfl
        | ok q1 =>
          rw [zq_pbd_ok, zq_pbd_ok]
          cases (if zq_tK T n q1 = 125 then Except.ok (q1, []) else zq_pMatches T n n.toNat [] q1) with
          | error e => rfl
          | ok y =>
            rw [zq_pbd_ok, zq_pbd_ok, zq_pbd_ok]
            cases zq_pTake T n 125 y.1 with
            | error e => rfl
            | ok q => rw [zq_pbd_ok, zq_pbd_ok]; cases zq_pTake T n 41 q <;> rfl
    cases s with
    | error e => exact f4
    | ok p => rw [zq_pbd_ok, e]; exact f4
  · subst hp
    unfold zq_pSel at hy
    rw [zq_pbd_ok] at d6 m6 b6 f6 
    cases h1 : zq_pTake T n 40 p with
    | error e => rw [h1] at hy; cases hy
    | ok q0 =>
      rw [h1, zq_pbd_ok] at hy
      rw [h1] at b6 m6 d6 f6
      rw [zq_pbd_ok] at m6 d6 f6
      cases h2 : zq_pTake T n 123 q0 with
      | error e => rw [h2] at hy; cases hy
      | ok q1 =>
        rw [h2, zq_pbd_ok] at hy
        rw [h2] at m6 d6 f6
        rw [zq_pbd_ok] at d6 f6
        cases h3 : (if zq_tK T n q1 = 125 then Except.ok (q1, []) else zq_pMatches T n n.toNat [] q1) with
        | error e => rw [h3] at hy; cases hy
        | ok y3 =>
          rw [h3, zq_pbd_ok] at hy
          rw [h3] at d6 f6
          rw [zq_pbd_ok] at d6 f6
          cases h4 : zq_pTake T n 125 y3.1 with
          | error e => rw [h4] at hy; cases hy
          | ok q4 =>
            rw [h4, zq_pbd_ok] at hy
            cases h5 : zq_pTake T n 41 q4 with
            | error e => rw [h5] at hy; cases hy
            | ok q5 =>
              rw [h5, zq_pbd_ok] at hy
              cases hy
              have mm := m6 q1 y3 rfl h3
              exact ⟨mm.1, zq_BD_le (zq_BD_tr (a6 p q0 rfl h1) (zq_BD_tr (b6 q0 q1 rfl h2) (zq_BD_tr mm.2 (zq_BD_tr d5 f5)))) (by omega)⟩
set_option maxRecDepth 100000 in
theorem zq_wrd_303 {T : Int → Int} {n p : Int} (h : zq_wrd T n p ≠ []) : zq_tK T n p = 303 := by
  unfold zq_wrd at h
  by_cases c : zq_tK T n p = 303
  · exact c
  · rw [if_neg c] at h; exact absurd rfl h
set_option maxRecDepth 100000 in
theorem zq_fnK_303 {T : Int → Int} {n p : Int} (h : zq_fnK T n p ≠ -1) : zq_tK T n p = 303 := by
  refine zq_wrd_303 (fun e => h ?_)
  unfold zq_fnK; rw [e]; decide
set_option maxRecDepth 100000 in
theorem zq_w_by {k : Nat} {T : Int → Int} {n : Int} {P : List Int} {kd : Int} {c : CW} {S : WS} {s : zq_PR Int} (h : zq_PB k T n c S (zq_frc P kd [] [])) (hs : zq_QS T n S s) (hz : S.pg_size ≤ 3 * S.lx_at + 10) :
    ∃ c' S' ns', (mb3 (s_Lx_spells c S 7) (fun r29 e29 S29 => if w32 r29 = 0 then q_QR_readFunc_52 e29 (P.length : Int) S29 else mb2 (s_Lx_advance e29 S29 ) (fun r31 S31 => mb2 (s_QR_take e29 S31 40) (fun r32 S32 => mb3 (s_QR_readNames e29 S32 (P.length : Int)) (fun r33 e33 S33 => mb2 (s_QR_take e33 S33 41) (fun r34 S34 => q_QR_readFunc_52 e33 (P.length : Int) S34)))))) = q_QR_readFunc_52 c' (P.length : Int) S' ∧ zq_PB k T n c' S' (zq_frc P kd ns' []) ∧ zq_FR c S c' S' ∧ zq_okN n ns' ∧ zq_QS T n S' (zq_pbd s (fun p => zq_pbd (zq_pBy T n p) (fun y => .ok y.1))) ∧ zq_BD S S' 0 ∧ (∀ p y, s = .ok p → zq_pBy T n p = .ok y → ns' = y.2) := by
  have hT := zq_PB_T h
  have hn := h.2.1.2.2.2
  have hn0 := h.2.1.1.1
  have hn1 := h.2.1.2.2.1
  have w7 : zq_wdI 7 = [98, 121] := by decide
  have sp := zq_w_spells h (i := 7) (by omega) (by decide) hs
  cases s with
  | error e =>
    refine ⟨c, S, [], ?_, h, zq_FR_refl _ _, ⟨by simp, by simp⟩, hs, zq_BD_refl _, fun p y z => by cases z⟩
    have sp0 : s_Lx_spells c S 7 = some (0, c, S) := by
      rw [sp, if_neg]
      rw [w7]; simp
    rw [zq_mb3_eq sp0, if_pos (by decide)]
  | ok p =>
    have hl : zq_LV T n S p := hs
    rw [w7] at sp
    rw [zq_mb3_eq sp]
    show ∃ c' S' ns', (if w32 (if zq_wrd T n p = [98, 121] then 1 else 0) = 0 then _ else _) = _ ∧ _
    by_cases c1 : zq_wrd T n p = [98, 121]
    · rw [if_pos c1, if_neg (by decide)]
      obtain ⟨k', b, x, e1, e2, e3, e4⟩ := zq_w_adv h hl
      have e4' := e4 (by rw [zq_wrd_303 (by rw [c1]; simp)]; decide)
      have hP1 := zq_PB_lq h k' (zq_tA T n (zq_tB T n p)) b x S.qr_faultCode S.qr_faultPlace
      have hF1 := zq_FR_lq c S k' (zq_tA T n (zq_tB T n p)) b x S.qr_faultCode S.qr_faultPlace
      have hB1 : zq_BD S (zq_lq S k' (zq_tA T n (zq_tB T n p)) b x S.qr_faultCode S.qr_faultPlace) (-3) := ⟨by show S.lx_at ≤ zq_tA T n (zq_tB T n p); rw [hl.2.1.2.1]; omega, by show S.pg_size - 3 * zq_tA T n (zq_tB T n p) ≤ _; rw [hl.2.1.2.1]; omega, rfl⟩
      generalize zq_lq S k' (zq_tA T n (zq_tB T n p)) b x S.qr_faultCode S.qr_faultPlace = S1 at *
      obtain ⟨S2, a1, a2, a3, a4, a5, a6⟩ := zq_w_take2 hP1 e2 (v := 40) (by omega)
      obtain ⟨c3, S3, ns', x1, x2, x3, x4, x5, x6, x7⟩ := zq_E_names (k := k) (T := T) (P := P) (kd := kd) n.toNat fU c S2 [] _ (zq_fU_gt (by omega)) (by omega) a2 a4 ⟨by simp, by simp⟩ (by have := a5.2.1; have := hB1.2.1; omega)
      obtain ⟨S4, d1, d2, zq_d3, d4, d5, d6⟩ := zq_w_take2 x2 x5 (v := 41) (by omega)
      have en : s_QR_readNames c S2 (P.length : Int) = some ((), c3, S3) := by
        rw [s_QR_readNames]
        refine (zq_mb2_eq (zq_e_size c S2)).trans ?_
        rw [a2.2.1.2.2.1, show n = ((n.toNat : Nat) : Int) by omega]; exact x1
      refine ⟨c3, S4, ns', ?_, d2, zq_FR_trans hF1 (zq_FR_trans a3 (zq_FR_trans x3 zq_d3)), x4, ?_, zq_BD_le (zq_BD_tr hB1 (zq_BD_tr a5 (zq_BD_tr x6 d5))) (by omega), fun p' y z1 z2 => ?_⟩
      · rw [zq_mb2_eq e1, zq_mb2_eq a1, zq_mb3_eq en, zq_mb2_eq d1]
      · rw [zq_pbd_ok]
        unfold zq_pBy
        rw [if_pos c1]
        cases h1 : zq_pAdv T n p with
        | error e => rw [h1] at d4; exact d4
        | ok q =>
          rw [h1, zq_pbd_ok] at d4
          rw [zq_pbd_ok]
          cases h2 : zq_pTake T n 40 q with
          | error e => rw [h2] at d4; exact d4
          | ok q2 =>
            rw [h2, zq_pbd_ok] at d4
            rw [zq_pbd_ok]
            cases h3 : zq_pNames T n n.toNat [] q2 with
            | error e => rw [h3] at d4; exact d4
            | ok y =>
              rw [h3, zq_pbd_ok, zq_pbd_ok] at d4
              rw [zq_pbd_ok]
              cases h4 : zq_pTake T n 41 y.1 with
              | error e => rw [h4] at d4; exact d4
              | ok q4 => rw [h4] at d4; exact d4
      · cases z1
        unfold zq_pBy at z2
        rw [if_pos c1] at z2
        cases h1 : zq_pAdv T n p with
        | error e => rw [h1] at z2; cases z2
        | ok q =>
          rw [h1, zq_pbd_ok] at z2
          rw [h1, zq_pbd_ok] at x7
          cases h2 : zq_pTake T n 40 q with
          | error e => rw [h2] at z2; cases z2
          | ok q2 =>
            rw [h2, zq_pbd_ok] at z2
            cases h3 : zq_pNames T n n.toNat [] q2 with
            | error e => rw [h3] at z2; cases z2
            | ok y3 =>
              rw [h3, zq_pbd_ok] at z2
              cases h4 : zq_pTake T n 41 y3.1 with
              | error e => rw [h4] at z2; cases z2
              | ok q4 =>
                rw [h4, zq_pbd_ok] at z2
                cases z2
                exact x7 q2 y3 h2 h3
    · rw [if_neg c1, if_pos (by decide)]
      refine ⟨c, S, [], rfl, h, zq_FR_refl _ _, ⟨by simp, by simp⟩, ?_, zq_BD_refl _, fun p' y z1 z2 => ?_⟩
      · rw [zq_pbd_ok, zq_pBy, if_neg c1]; exact hs
      · cases z1; rw [zq_pBy, if_neg c1] at z2; cases z2; rfl
set_option maxRecDepth 100000 in
/-- a function is read -/
theorem zq_w_func {k : Nat} {T : Int → Int} {n : Int} {c : CW} {S : WS} {L : List Int} {p : Int} (h : zq_PB k T n c S L) (hl : zq_LV T n S p) (hz : S.pg_size ≤ 3 * S.lx_at) (h3 : zq_tK T n p = 303) (kd : Int) :
    ∃ r c' S' L' ns, s_QR_readFunc c S kd = some (r, c', S') ∧ zq_PB k T n c' S' (L ++ L') ∧ zq_FR c S c' S' ∧ zq_QS T n S' (zq_pbd (zq_pFunc T n kd p) (fun y => .ok y.1)) ∧ zq_NG n (L ++ L') r ns ∧ zq_BD S S' 16 ∧ (∀ y, zq_pFunc T n kd p = .ok y → L' = zq_encOs y.2 ∧ zq_BD S S' 0 ∧ ∃ q0 ms, y.2 = [((310 : Int), ll 0, kd, q0, ns, ms)]) := by
  have hT := zq_PB_T h
  have hn := h.2.1.2.2.2
  have hsz := h.2.2.2.1
  have hat := zq_QS_at (s := .ok p) hl
  obtain ⟨c1, o1, z1, a1, a2, a3⟩ := zq_w_addFunc h (by omega) kd
  have a2' : zq_PB k T n c1 (zq_ow S o1 z1) (zq_frc L kd [] []) := a2
  have hl1 : zq_LV T n (zq_ow S o1 z1) p := hl
  obtain ⟨k', b, x, e1, e2, e3, e4⟩ := zq_w_adv a2' hl1
  have e4' := e4 (by omega)
  have hP1 := zq_PB_lq a2' k' (zq_tA T n (zq_tB T n p)) b x (zq_ow S o1 z1).qr_faultCode (zq_ow S o1 z1).qr_faultPlace
  have hF1 : zq_FR c S c1 (zq_lq (zq_ow S o1 z1) k' (zq_tA T n (zq_tB T n p)) b x (zq_ow S o1 z1).qr_faultCode (zq_ow S o1 z1).qr_faultPlace) := zq_FR_trans (zq_FR_ow S o1 z1 a3) (zq_FR_lq _ _ _ _ _ _ _ _)
  have hz1 : z1 = S.pg_size + 4 := by
    have := a2.2.2.2.1
    have e : (zq_ow S o1 z1).pg_size = z1 := rfl
    rw [e] at this; rw [this, hsz]; simp
  have hB1 : zq_BD S (zq_lq (zq_ow S o1 z1) k' (zq_tA T n (zq_tB T n p)) b x (zq_ow S o1 z1).qr_faultCode (zq_ow S o1 z1).qr_faultPlace) 1 := ⟨by show S.lx_at ≤ zq_tA T n (zq_tB T n p); rw [hl.2.1.2.1]; omega, by show z1 - 3 * zq_tA T n (zq_tB T n p) ≤ _; rw [hl.2.1.2.1]; omega, rfl⟩
  generalize zq_lq (zq_ow S o1 z1) k' (zq_tA T n (zq_tB T n p)) b x (zq_ow S o1 z1).qr_faultCode (zq_ow S o1 z1).qr_faultPlace = S1 at *
  obtain ⟨c2, S2, ns, y1, y2, y3, y4, y5, y6, y7⟩ := zq_w_by hP1 e2 (by have := hB1.2.1; omega)
  obtain ⟨c3, S3, ms, x1, x2, x3, x4, x5, x6⟩ := zq_w_sel y4 y2 y5 (by have := hB1.2.1; have := y6.2.1; omega)
  have hfr : zq_frc L kd ns ms = L ++ ([310, kd, (ns.length : Int), (ms.length : Int)] ++ (zq_encN ns ++ zq_encM ms)) := rfl
  refine ⟨if ns = [] then -1 else (L.length : Int), c3, S3, _, ns, ?_, x2, zq_FR_trans hF1 (zq_FR_trans y3 x3), ?_, ?_, zq_BD_le (zq_BD_tr hB1 (zq_BD_tr y6 x5)) (by omega), fun y hy => ?_⟩
  · rw [s_QR_readFunc, zq_mb3_eq a1, zq_mb2_eq e1, y1, x1]
  · unfold zq_pFunc
    cases h1 : zq_pAdv T n p with
    | error e => rw [h1] at x4; exact x4
    | ok q =>
      rw [h1, zq_pbd_ok] at x4
      rw [zq_pbd_ok]
      cases h2 : zq_pBy T n q with
      | error e => rw [h2] at x4; exact x4
      | ok y =>
        rw [h2, zq_pbd_ok, zq_pbd_ok] at x4
        rw [zq_pbd_ok]
        cases h4 : zq_pSel T n y.1 with
        | error e => rw [h4] at x4; exact x4
        | ok z => rw [h4] at x4; exact x4
  · rw [← hfr]
    by_cases c0 : ns = []
    · rw [if_pos c0]; exact Or.inl ⟨rfl, c0⟩
    · rw [if_neg c0]; exact Or.inr ⟨L.length, rfl, by rw [zq_frc_len]; omega, c0, zq_frc_NR y4.1 y4.2⟩
  · unfold zq_pFunc at hy
    cases h1 : zq_pAdv T n p with
    | error e => rw [h1] at hy; cases hy
    | ok q =>
      rw [h1, zq_pbd_ok] at hy
      rw [h1, zq_pbd_ok] at x6
      cases h2 : zq_pBy T n q with
      | error e => rw [h2] at hy; cases hy
      | ok yb =>
        rw [h2, zq_pbd_ok] at hy
        rw [h2, zq_pbd_ok] at x6
        cases h4 : zq_pSel T n yb.1 with
        | error e => rw [h4] at hy; cases hy
        | ok z =>
          rw [h4, zq_pbd_ok] at hy
          cases hy
          have q1 := y7 q yb h1 h2
          have q2 := x6 yb.1 z rfl h4
          refine ⟨?_, zq_BD_le (zq_BD_tr hB1 (zq_BD_tr y6 q2.2)) (by omega), z.2.1, z.2.2, by rw [q1]⟩
          rw [q1, q2.1]
          show _ = zq_encOs [((310 : Int), ll 0, kd, z.2.1, yb.2, z.2.2)]
          simp [zq_encOs, zq_encO]
set_option maxRecDepth 100000 in
def zq_BE (S S' : WS) (j : Int) : Prop := S.lx_at ≤ S'.lx_at ∧ S'.pg_size - 3 * S'.lx_at ≤ S.pg_size - 3 * S.lx_at + j
set_option maxRecDepth 100000 in
theorem zq_BE_of {S S' : WS} {j : Int} (h : zq_BD S S' j) : zq_BE S S' j := ⟨h.1, h.2.1⟩
set_option maxRecDepth 100000 in
theorem zq_BE_refl (S : WS) : zq_BE S S 0 := ⟨Int.le_refl _, by omega⟩
set_option maxRecDepth 100000 in
theorem zq_BE_tr {S S1 S2 : WS} {i j : Int} (h1 : zq_BE S S1 i) (h2 : zq_BE S1 S2 j) : zq_BE S S2 (i + j) := ⟨by have := h1.1; have := h2.1; omega, by have := h1.2; have := h2.2; omega⟩
set_option maxRecDepth 100000 in
theorem zq_BE_le {S S1 : WS} {i j : Int} (h1 : zq_BE S S1 i) (h : i ≤ j) : zq_BE S S1 j := ⟨h1.1, by have := h1.2; omega⟩
set_option maxRecDepth 100000 in
def zq_HZ (S : WS) (s : zq_PR Int) : Prop := S.pg_size ≤ 3 * S.lx_at + (match s with | .ok _ => 0 | .error _ => 40)
set_option maxRecDepth 100000 in
def zq_ClR (S : WS) : Prop := -1 ≤ S.qr_clashPlace ∧ S.qr_clashPlace ≤ 20000
set_option maxRecDepth 100000 in
abbrev zq_RF3 : Type := CW → WS → Int → Option (Int × CW × WS)
set_option maxRecDepth 100000 in
/-- what a reader of a part of the question does -/
def zq_RD (k : Nat) (T : Int → Int) (n : Int) (F : zq_RF3) (G : zq_PF) (d : Int) : Prop := ∀ (c : CW) (S : WS) (L : List Int) (s : zq_PR Int), zq_PB k T n c S L → zq_QS T n S s → zq_HZ S s → zq_ClR S →
  ∃ r c' S' L' ns, F c S d = some (r, c', S') ∧ zq_PB k T n c' S' (L ++ L') ∧ zq_FR c S c' S' ∧ zq_QS T n S' (zq_pbd s (fun p => zq_pbd (G d p) (fun y => .ok y.1))) ∧ zq_NG n (L ++ L') r ns ∧ zq_ClR S' ∧ zq_BE S S' 16 ∧ (∀ e, s = .error e → zq_BE S S' 0) ∧
    (∀ p y, s = .ok p → G d p = .ok y → L' = zq_encOs y.2 ∧ zq_BE S S' 0 ∧ ∀ st, zq_nrun T y.2 (st, S.qr_clashPlace) = (ns :: st, S'.qr_clashPlace))
set_option maxRecDepth 100000 in
theorem zq_encOs_app (a b : List zq_Od) : zq_encOs (a ++ b) = zq_encOs a ++ zq_encOs b := List.flatMap_append
set_option maxRecDepth 100000 in
theorem zq_nrun_app (T : Int → Int) (a b : List zq_Od) (s : List (List zq_NM) × Int) : zq_nrun T (a ++ b) s = zq_nrun T b (zq_nrun T a s) := List.foldl_append
set_option maxRecDepth 100000 in
theorem zq_w_fac {k : Nat} {T : Int → Int} {n : Int} {oS oF : zq_RF3} {gS gF : zq_PF} {d : Int} (hd : 0 ≤ d ∧ d ≤ 8) (hS : d < 8 → zq_RD k T n oS gS (d + 1)) (hF : d < 8 → zq_RD k T n oF gF (d + 1)) : zq_RD k T n (s_QR_readFactor oS oF) (zq_pFac T n gS gF) d := by
  intro c S L s h hs hz hc
  have hT := zq_PB_T h
  have hn := h.2.1.2.2.2
  have hsz := h.2.2.2.1
  have hat := zq_QS_at hs
  have hk := zq_QS_kind hT hs
  have fk := zq_w_funcKind h hs
  cases s with
  | error e =>
    obtain ⟨fc, fp, e1, e2⟩ := zq_w_refuseD (c := c) hs hn 2
    refine ⟨-1, c, zq_lq S 300 S.lx_at S.lx_behind S.lx_number fc fp, [], [], ?_, ?_, zq_FR_lq _ _ _ _ _ _ _ _, e2, Or.inl ⟨rfl, rfl⟩, hc, ?_, fun e _ => ?_, fun p y z => by cases z⟩
    · rw [s_QR_readFactor]
      show (if w32 S.lx_kind = 302 then _ else _) = _
      rw [hs.1.1, if_neg (by decide), if_neg (show ¬ w32 300 = 40 by decide), if_neg (show ¬ w32 300 = 45 by decide)]
      refine (zq_mb3_eq (show s_QR_funcKind c S = some (-1, c, S) from fk)).trans ?_
      rw [if_pos (by decide)]
      exact zq_mb2_eq e1
    · rw [List.append_nil]; exact zq_PB_lq h _ _ _ _ _ _
    · exact ⟨Int.le_refl _, by show S.pg_size - 3 * S.lx_at ≤ _; omega⟩
    · exact ⟨Int.le_refl _, by show S.pg_size - 3 * S.lx_at ≤ _; omega⟩
  | ok p =>
    have hl : zq_LV T n S p := hs
    have hz0 : S.pg_size ≤ 3 * S.lx_at := by have : S.pg_size ≤ 3 * S.lx_at + 0 := hz; omega
    have hkk := zq_tK_R hT p
    have ek : S.lx_kind = zq_tK T n p := hl.2.1.1
    have ea : S.lx_at = zq_tA T n p := hl.2.1.2.1
    show ∃ r c' S' L' ns, s_QR_readFactor oS oF c S d = _ ∧ _ ∧ _ ∧ zq_QS T n S' (zq_pbd (zq_pFac T n gS gF d p) (fun y => .ok y.1)) ∧ _
    have e0 : s_QR_readFactor oS oF c S d = if zq_tK T n p = 302 then mb2 (s_Lx_number c S ) (fun r22 S22 => mb3 (s_Pg_addNumber c S22 r22) (fun r23 e23 S23 => mb2 (s_Lx_advance e23 S23 ) (fun r24 S24 => some (-1, e23, S24)))) else if zq_tK T n p = 40 then q_QR_readFactor_50 oS oF c d (zq_tK T n p) S else if zq_tK T n p = 45 then q_QR_readFactor_50 oS oF c d (zq_tK T n p) S else mb3 (s_QR_funcKind c S ) (fun r18 e18 S18 => if w32 r18 = (-1) then mb2 (s_QR_refuse e18 S18 2) (fun r20 S20 => some (-1, e18, S20)) else mb3 (s_QR_readFunc e18 S18 r18) (fun r21 e21 S21 => some (r21, e21, S21))) := by
      rw [s_QR_readFactor]
      show (if w32 S.lx_kind = 302 then _ else if w32 S.lx_kind = 40 then _ else if w32 S.lx_kind = 45 then _ else _) = _
      rw [ek, zq_w32i (z := zq_tK T n p) (by omega) (by omega)]
    rw [e0]
    unfold zq_pFac
    by_cases c1 : zq_tK T n p = 302
    · rw [if_pos c1, if_pos c1]
      obtain ⟨c1', o1, z1, a1, a2, a3⟩ := zq_w_addNumber h (by omega) (zq_tX T n p)
      have hl1 : zq_LV T n (zq_ow S o1 z1) p := hl
      obtain ⟨k', b, x, e1, e2, e3, e4⟩ := zq_w_adv a2 hl1
      have e4' := e4 (by omega)
      have hz1 : z1 = S.pg_size + 3 := by
        have := a2.2.2.2.1
        have e : (zq_ow S o1 z1).pg_size = z1 := rfl
        rw [e] at this; rw [this, hsz]; simp
      have hBE : zq_BE S (zq_lq (zq_ow S o1 z1) k' (zq_tA T n (zq_tB T n p)) b x (zq_ow S o1 z1).qr_faultCode (zq_ow S o1 z1).qr_faultPlace) 0 := ⟨by show S.lx_at ≤ zq_tA T n (zq_tB T n p); omega, by show z1 - 3 * zq_tA T n (zq_tB T n p) ≤ _; omega⟩
      refine ⟨-1, c1', zq_lq (zq_ow S o1 z1) k' (zq_tA T n (zq_tB T n p)) b x (zq_ow S o1 z1).qr_faultCode (zq_ow S o1 z1).qr_faultPlace, _, [], ?_, zq_PB_lq a2 _ _ _ _ _ _, zq_FR_trans (zq_FR_ow S o1 z1 a3) (zq_FR_lq _ _ _ _ _ _ _ _), ?_, Or.inl ⟨rfl, rfl⟩, hc, zq_BE_le hBE (by omega), fun e _ => hBE, fun p' y z1 z2 => ?_⟩
      · refine (zq_mb2_eq (show s_Lx_number c S = some (zq_tX T n p, S) by rw [← hl.2.1.2.2.2 c1]; rfl)).trans ?_
        refine (zq_mb3_eq a1).trans ?_
        exact zq_mb2_eq e1
      · cases hq : zq_pAdv T n p with
        | error e => rw [hq] at e2; exact e2
        | ok q => rw [hq] at e2; exact e2
      · cases z1
        rw [if_pos c1] at z2
        cases hq : zq_pAdv T n p with
        | error e => rw [hq] at z2; cases z2
        | ok q =>
          rw [hq] at z2; cases z2
          refine ⟨?_, hBE, fun st => ?_⟩
          · simp [zq_encOs, zq_encO]
          · simp [zq_nrun, zq_nstep]; rfl
    · rw [if_neg c1, if_neg c1]
      by_cases c2 : zq_tK T n p = 40 ∨ zq_tK T n p = 45
      · rw [if_pos c2]
        have e5 : (if zq_tK T n p = 40 then q_QR_readFactor_50 oS oF c d (zq_tK T n p) S else if zq_tK T n p = 45 then q_QR_readFactor_50 oS oF c d (zq_tK T n p) S else mb3 (s_QR_funcKind c S ) (fun r18 e18 S18 => if w32 r18 = (-1) then mb2 (s_QR_refuse e18 S18 2) (fun r20 S20 => some (-1, e18, S20)) else mb3 (s_QR_readFunc e18 S18 r18) (fun r21 e21 S21 => some (r21, e21, S21)))) = mb3 (s_QR_readOpened oS oF c S (zq_tK T n p) d) (fun r13 e13 S13 => some (r13, e13, S13)) := by
          rcases c2 with c2 | c2
          · rw [if_pos c2]; rfl
          · rw [if_neg (by omega), if_pos c2]; rfl
        rw [e5]
        unfold zq_pOpen
        by_cases c3 : d < 8
        · rw [if_pos c3]
          obtain ⟨k', b, x, e1, e2, e3, e4⟩ := zq_w_adv h hl
          have e4' := e4 (by omega)
          have hP1 := zq_PB_lq h k' (zq_tA T n (zq_tB T n p)) b x S.qr_faultCode S.qr_faultPlace
          have hF1 := zq_FR_lq c S k' (zq_tA T n (zq_tB T n p)) b x S.qr_faultCode S.qr_faultPlace
          have hB1 : zq_BE S (zq_lq S k' (zq_tA T n (zq_tB T n p)) b x S.qr_faultCode S.qr_faultPlace) (-3) := ⟨by show S.lx_at ≤ zq_tA T n (zq_tB T n p); omega, by show S.pg_size - 3 * zq_tA T n (zq_tB T n p) ≤ _; omega⟩
          have hcl1 : (zq_lq S k' (zq_tA T n (zq_tB T n p)) b x S.qr_faultCode S.qr_faultPlace).qr_clashPlace = S.qr_clashPlace := rfl
          generalize zq_lq S k' (zq_tA T n (zq_tB T n p)) b x S.qr_faultCode S.qr_faultPlace = S1 at *
          have hz1 : zq_HZ S1 (zq_pAdv T n p) := by
            have := hB1.2
            unfold zq_HZ; split <;> omega
          have hc1 : zq_ClR S1 := by unfold zq_ClR; rw [hcl1]; exact hc
          have e6 : s_QR_readOpened oS oF c S (zq_tK T n p) d = if zq_tK T n p = 40 then mb3 (oS c S1 (d + 1)) (fun r14 e14 S14 => mb2 (s_QR_take e14 S14 41) (fun r15 S15 => some (r14, e14, S15))) else mb3 (oF c S1 (d + 1)) (fun r12 e12 S12 => mb3 (s_Pg_add e12 S12 311) (fun r13 e13 S13 => some (r12, e13, S13))) := by
            rw [s_QR_readOpened, zq_w32i (z := d) (by omega) (by omega), if_pos c3]
            refine (zq_mb2_eq e1).trans ?_
            rw [zq_w32i (z := zq_tK T n p) (by omega) (by omega)]
          rw [e6]
          by_cases c4 : zq_tK T n p = 40
          · rw [if_pos c4]
            obtain ⟨r, c5, S5, L5, ns, y1, y2, y3, y4, y5, y6, y7, y8, y9⟩ := hS c3 c S1 L _ hP1 e2 hz1 hc1
            obtain ⟨S6, t1, t2, t3, t4, t5, t6⟩ := zq_w_take2 y2 y4 (v := 41) (by omega)
            refine ⟨r, c5, S6, L5, ns, ?_, t2, zq_FR_trans hF1 (zq_FR_trans y3 t3), ?_, y5, ?_, zq_BE_le (zq_BE_tr hB1 (zq_BE_tr y7 (zq_BE_of t5))) (by omega), (fun e z => by cases z), fun p' y z1 z2 => ?_⟩
            · rw [zq_mb3_eq y1, zq_mb2_eq t1]; rfl
            · cases hq : zq_pAdv T n p with
              | error e => rw [hq] at t4; exact t4
              | ok q =>
                rw [hq, zq_pbd_ok] at t4
                rw [zq_pbd_ok, if_pos c4]
                cases hg : gS (d + 1) q with
                | error e => rw [hg] at t4; exact t4
                | ok y =>
                  rw [hg, zq_pbd_ok, zq_pbd_ok] at t4
                  rw [zq_pbd_ok]
                  cases ht : zq_pTake T n 41 y.1 with
                  | error e => rw [ht] at t4; exact t4
                  | ok q2 => rw [ht] at t4; exact t4
            · unfold zq_ClR; rw [t5.2.2]; exact y6
            · cases z1
              rw [if_neg c1, if_pos c2, if_pos c3] at z2
              cases hq : zq_pAdv T n p with
              | error e => rw [hq] at z2; cases z2
              | ok q =>
                rw [hq, zq_pbd_ok, if_pos c4] at z2
                cases hg : gS (d + 1) q with
                | error e => rw [hg] at z2; cases z2
                | ok y5 =>
                  rw [hg, zq_pbd_ok] at z2
                  cases ht : zq_pTake T n 41 y5.1 with
                  | error e => rw [ht] at z2; cases z2
                  | ok q2 =>
                    rw [ht, zq_pbd_ok] at z2
                    cases z2
                    obtain ⟨w1, w2, w3⟩ := y9 q y5 hq hg
                    exact ⟨w1, zq_BE_le (zq_BE_tr hB1 (zq_BE_tr w2 (zq_BE_of t5))) (by omega), fun st => by rw [t5.2.2, ← hcl1]; exact w3 st⟩
          · rw [if_neg c4]
            obtain ⟨r, c5, S5, L5, ns, y1, y2, y3, y4, y5, y6, y7, y8, y9⟩ := hF c3 c S1 L _ hP1 e2 hz1 hc1
            have hlen5 : (L ++ L5).length ≤ 32000 := by
              have := y2.2.2.2.1; have := y7.2; have := zq_QS_at y4; have := hB1.2; omega
            obtain ⟨c6, o6, z6, a1, a2, a3⟩ := zq_w_pgadd y2 hlen5 311
            have hz6 : z6 = S5.pg_size + 1 := by
              have := a2.2.2.2.1
              have e : (zq_ow S5 o6 z6).pg_size = z6 := rfl
              rw [e] at this; rw [this, y2.2.2.2.1]; simp; omega
            have b6 : zq_BE S5 (zq_ow S5 o6 z6) 1 := ⟨Int.le_refl _, by show z6 - 3 * S5.lx_at ≤ _; omega⟩
            refine ⟨r, c6, zq_ow S5 o6 z6, L5 ++ [311], ns, ?_, by rw [← List.append_assoc]; exact a2, zq_FR_trans hF1 (zq_FR_trans y3 (zq_FR_ow S5 o6 z6 a3)), ?_, by rw [← List.append_assoc]; exact zq_NG_app y5, y6, zq_BE_le (zq_BE_tr hB1 (zq_BE_tr y7 b6)) (by omega), (fun e z => by cases z), fun p' y z1 z2 => ?_⟩
            · rw [zq_mb3_eq y1, zq_mb3_eq a1]; rfl
            · have y4' := zq_QS_ow o6 z6 y4
              cases hq : zq_pAdv T n p with
              | error e => rw [hq] at y4'; exact y4'
              | ok q =>
                rw [hq, zq_pbd_ok] at y4'
                rw [zq_pbd_ok, if_neg c4]
                cases hg : gF (d + 1) q with
                | error e => rw [hg] at y4'; exact y4'
                | ok y => rw [hg] at y4'; exact y4'
            · cases z1
              rw [if_neg c1, if_pos c2, if_pos c3] at z2
              cases hq : zq_pAdv T n p with
              | error e => rw [hq] at z2; cases z2
              | ok q =>
                rw [hq, zq_pbd_ok, if_neg c4] at z2
                cases hg : gF (d + 1) q with
                | error e => rw [hg] at z2; cases z2
                | ok y5 =>
                  rw [hg, zq_pbd_ok] at z2
                  cases z2
                  obtain ⟨w1, w2, w3⟩ := y9 q y5 hq hg
                  refine ⟨?_, zq_BE_le (zq_BE_tr hB1 (zq_BE_tr w2 b6)) (by omega), fun st => ?_⟩
                  · rw [zq_encOs_app, w1]; simp [zq_encOs, zq_encO]
                  · rw [zq_nrun_app, ← hcl1, w3 st]; simp [zq_nrun, zq_nstep]; rfl
        · rw [if_neg c3]
          obtain ⟨e1, e2⟩ := zq_w_refuse (c := c) hT hl (v := 3) (by omega)
          refine ⟨-1, c, zq_lq S 300 S.lx_at S.lx_behind S.lx_number 3 S.lx_at, [], [], ?_, by rw [List.append_nil]; exact zq_PB_lq h _ _ _ _ _ _, zq_FR_lq _ _ _ _ _ _ _ _, e2, Or.inl ⟨rfl, rfl⟩, hc, ⟨Int.le_refl _, by show S.pg_size - 3 * S.lx_at ≤ _; omega⟩, (fun e z => by cases z), fun p' y z1 z2 => ?_⟩
          · have e6 : s_QR_readOpened oS oF c S (zq_tK T n p) d = some (-1, c, zq_lq S 300 S.lx_at S.lx_behind S.lx_number 3 S.lx_at) := by
              rw [s_QR_readOpened, zq_w32i (z := d) (by omega) (by omega), if_neg c3]
              exact zq_mb2_eq e1
            rw [zq_mb3_eq e6]
          · cases z1; rw [if_neg c1, if_pos c2, if_neg c3] at z2; cases z2
      · rw [if_neg c2, if_neg (by omega), if_neg (by omega)]
        have fk' : s_QR_funcKind c S = some (zq_fnK T n p, c, S) := fk
        have fR : -1 ≤ zq_fnK T n p ∧ zq_fnK T n p ≤ 7 := by unfold zq_fnK; repeat (split; omega); omega
        rw [zq_mb3_eq fk', zq_w32i (z := zq_fnK T n p) (by omega) (by omega)]
        by_cases c3 : zq_fnK T n p = -1
        · rw [if_pos c3, if_pos c3]
          obtain ⟨e1, e2⟩ := zq_w_refuse (c := c) hT hl (v := 2) (by omega)
          refine ⟨-1, c, zq_lq S 300 S.lx_at S.lx_behind S.lx_number 2 S.lx_at, [], [], zq_mb2_eq e1, by rw [List.append_nil]; exact zq_PB_lq h _ _ _ _ _ _, zq_FR_lq _ _ _ _ _ _ _ _, e2, Or.inl ⟨rfl, rfl⟩, hc, ⟨Int.le_refl _, by show S.pg_size - 3 * S.lx_at ≤ _; omega⟩, (fun e z => by cases z), fun p' y z1 z2 => ?_⟩
          cases z1; rw [if_neg c1, if_neg c2, if_pos c3] at z2; cases z2
        · rw [if_neg c3, if_neg c3]
          obtain ⟨r, c5, S5, L5, ns, y1, y2, y3, y4, y5, y6, y7⟩ := zq_w_func h hl hz0 (zq_fnK_303 c3) (zq_fnK T n p)
          refine ⟨r, c5, S5, L5, ns, by rw [zq_mb3_eq y1], y2, y3, y4, y5, by unfold zq_ClR; rw [y6.2.2]; exact hc, zq_BE_of y6, (fun e z => by cases z), fun p' y z1 z2 => ?_⟩
          cases z1; rw [if_neg c1, if_neg c2, if_neg c3] at z2
          obtain ⟨w1, w2, q0, ms, w3⟩ := y7 y z2
          refine ⟨w1, zq_BE_of w2, fun st => ?_⟩
          rw [w3, y6.2.2]; simp [zq_nrun, zq_nstep]
set_option maxRecDepth 100000 in
/-- the loop over signs, for products and sums -/
def zq_gl (sgn : Int → Option Int) (F : zq_RF3) : Nat → CW → Int → Int → Int → WS → Option (Int × CW × WS)
  | 0, _, _, _, _, _ => none
  | n + 1, c, v1, v2, v3, S => if w32 v3 ≤ 0 then some (v2, c, S) else mb2 (s_Lx_kind c S ) (fun r14 S14 => mb1 (sgn r14) (fun r15 => if w32 r15 = 0 then some (v2, c, S14) else mb2 (s_Lx_kind c S14 ) (fun r17 S17 => mb2 (s_Lx_at c S17 ) (fun r18 S18 => mb2 (s_Lx_advance c S18 ) (fun r19 S19 => mb3 (F c S19 v1) (fun r20 e20 S20 => mb2 (s_QR_join e20 S20 v2 r20 r18) (fun r21 S21 => mb3 (s_Pg_add e20 S21 r17) (fun r22 e22 S22 => zq_gl sgn F n e22 v1 r21 (v3 + (-1)) S22))))))))
set_option maxRecDepth 100000 in
theorem zq_gl_prod (oS oF : zq_RF3) : ∀ f, q_QR_readProduct_14 oS oF f = zq_gl s_QR_isProductSign (s_QR_readFactor oS oF) f
  | 0 => rfl
  | f + 1 => by funext c v1 v2 v3 S; rw [q_QR_readProduct_14, zq_gl, zq_gl_prod oS oF f]
set_option maxRecDepth 100000 in
theorem zq_gl_sum (oS oF : zq_RF3) : ∀ f, q_QR_readSum_14 oS oF f = zq_gl s_QR_isSumSign (s_QR_readProduct oS oF) f
  | 0 => rfl
  | f + 1 => by funext c v1 v2 v3 S; rw [q_QR_readSum_14, zq_gl, zq_gl_sum oS oF f]
set_option maxRecDepth 100000 in
def zq_SgOk (sgn : Int → Option Int) (sg : Int → Bool) : Prop := (∀ v, -1 ≤ v → v ≤ 400 → sgn v = some (if sg v then 1 else 0)) ∧ (∀ v, sg v = true → v ≠ 300 ∧ v ≠ 301 ∧ v ≠ 302 ∧ v ≠ 310 ∧ v ≠ 311)
set_option maxRecDepth 100000 in
theorem zq_sgP : zq_SgOk s_QR_isProductSign zq_isPS := by
  refine ⟨fun v h1 h2 => ?_, fun v h => ?_⟩
  · rw [s_QR_isProductSign, zq_w32i (z := v) (by omega) (by omega)]
    unfold zq_isPS q_QR_isProductSign_18
    by_cases c1 : v = 42
    · rw [if_pos c1]; simp [c1]
    by_cases c2 : v = 47
    · rw [if_neg c1, if_pos c2]; simp [c2]
    by_cases c3 : v = 37
    · rw [if_neg c1, if_neg c2, if_pos c3]; simp [c3]
    rw [if_neg c1, if_neg c2, if_neg c3]; simp [c1, c2, c3]
  · unfold zq_isPS at h; simp at h; omega
set_option maxRecDepth 100000 in
theorem zq_sgS : zq_SgOk s_QR_isSumSign zq_isSS := by
  refine ⟨fun v h1 h2 => ?_, fun v h => ?_⟩
  · rw [s_QR_isSumSign, zq_w32i (z := v) (by omega) (by omega)]
    unfold zq_isSS q_QR_isSumSign_12
    by_cases c1 : v = 43
    · rw [if_pos c1]; simp [c1]
    by_cases c2 : v = 45
    · rw [if_neg c1, if_pos c2]; simp [c2]
    rw [if_neg c1, if_neg c2]; simp [c1, c2]
  · unfold zq_isSS at h; simp at h; omega
set_option maxRecDepth 100000 in
theorem zq_E_loop {k : Nat} {T : Int → Int} {n : Int} {F : zq_RF3} {G : zq_PF} {d : Int} {sgn : Int → Option Int} {sg : Int → Bool} (hsg : zq_SgOk sgn sg) (hFG : zq_RD k T n F G d) (B : List Int) : ∀ (m f : Nat) (c : CW) (S : WS) (s : zq_PR Int) (r : Int) (ns : List zq_NM) (X : List Int) (os : List zq_Od) (cl0 : Int), m < f → m ≤ 20000 → zq_PB k T n c S (B ++ X) → zq_QS T n S s → zq_HZ S s → zq_ClR S → zq_NG n (B ++ X) r ns → (∀ p, s = .ok p → X = zq_encOs os ∧ ∀ st, zq_nrun T os (st, cl0) = (ns :: st, S.qr_clashPlace)) →
    ∃ r' c' S' X' ns', zq_gl sgn F f c d r (m : Int) S = some (r', c', S') ∧ zq_PB k T n c' S' (B ++ X') ∧ zq_FR c S c' S' ∧ zq_QS T n S' (zq_pbd s (fun p => zq_pbd (zq_pLoop T n G sg d m os p) (fun y => .ok y.1))) ∧ zq_NG n (B ++ X') r' ns' ∧ zq_ClR S' ∧ zq_BE S S' 16 ∧ (∀ e, s = .error e → zq_BE S S' 0) ∧ (∀ p y, s = .ok p → zq_pLoop T n G sg d m os p = .ok y → X' = zq_encOs y.2 ∧ zq_BE S S' 0 ∧ ∀ st, zq_nrun T y.2 (st, cl0) = (ns' :: st, S'.qr_clashPlace))
  | m, 0, c, S, s, r, ns, X, os, cl0 => by omega
  | 0, f + 1, c, S, s, r, ns, X, os, cl0 => by
    intro hf hm h hs hz hc hg hx
    refine ⟨r, c, S, X, ns, ?_, h, zq_FR_refl _ _, ?_, hg, hc, zq_BE_le (zq_BE_refl S) (by omega), fun _ _ => zq_BE_refl S, fun p y z1 z2 => ?_⟩
    · rw [zq_gl, if_pos (by decide)]
    · cases s <;> exact hs
    · rw [zq_pLoop] at z2; cases z2; exact ⟨(hx p z1).1, zq_BE_refl S, (hx p z1).2⟩
  | m + 1, f + 1, c, S, s, r, ns, X, os, cl0 => by
    intro hf hm h hs hz hc hg hx
    have hT := zq_PB_T h
    have hn := h.2.1.2.2.2
    have hk := zq_QS_kind hT hs
    have stop : (sg S.lx_kind = false) → zq_gl sgn F (f + 1) c d r ((m + 1 : Nat) : Int) S = some (r, c, S) := by
      intro hsk
      rw [zq_gl, zq_w32i (z := ((m + 1 : Nat) : Int)) (by omega) (by omega), if_neg (by omega)]
      refine (zq_mb2_eq (show s_Lx_kind c S = some (S.lx_kind, S) from rfl)).trans ?_
      refine (zq_mb1_eq (hsg.1 S.lx_kind hk.1 hk.2)).trans ?_
      rw [hsk]; rfl
    cases s with
    | error e =>
      refine ⟨r, c, S, X, ns, stop ?_, h, zq_FR_refl _ _, hs, hg, hc, zq_BE_le (zq_BE_refl S) (by omega), fun _ _ => zq_BE_refl S, fun p y z1 => by cases z1⟩
      cases hh : sg S.lx_kind with
      | false => rfl
      | true => exact absurd hs.1.1 (hsg.2 _ hh).1
    | ok p =>
      have hl : zq_LV T n S p := hs
      have ek : S.lx_kind = zq_tK T n p := hl.2.1.1
      have ea : S.lx_at = zq_tA T n p := hl.2.1.2.1
      obtain ⟨hx1, hx2⟩ := hx p rfl
      show ∃ r' c' S' X' ns', _ ∧ _ ∧ _ ∧ zq_QS T n S' (zq_pbd (zq_pLoop T n G sg d (m + 1) os p) (fun y => .ok y.1)) ∧ _
      by_cases c1 : sg (zq_tK T n p) = true
      · obtain ⟨s1, s2, s3, s4, s5⟩ := hsg.2 _ c1
        obtain ⟨k', b, x, e1, e2, e3, e4⟩ := zq_w_adv h hl
        have e4' := e4 s2
        have hP1 := zq_PB_lq h k' (zq_tA T n (zq_tB T n p)) b x S.qr_faultCode S.qr_faultPlace
        have hF1 := zq_FR_lq c S k' (zq_tA T n (zq_tB T n p)) b x S.qr_faultCode S.qr_faultPlace
        have hB1 : zq_BE S (zq_lq S k' (zq_tA T n (zq_tB T n p)) b x S.qr_faultCode S.qr_faultPlace) (-3) := ⟨by show S.lx_at ≤ zq_tA T n (zq_tB T n p); omega, by show S.pg_size - 3 * zq_tA T n (zq_tB T n p) ≤ _; omega⟩
        have hcl1 : (zq_lq S k' (zq_tA T n (zq_tB T n p)) b x S.qr_faultCode S.qr_faultPlace).qr_clashPlace = S.qr_clashPlace := rfl
        generalize zq_lq S k' (zq_tA T n (zq_tB T n p)) b x S.qr_faultCode S.qr_faultPlace = S1 at *
        have hz0 : S.pg_size ≤ 3 * S.lx_at := by have : S.pg_size ≤ 3 * S.lx_at + 0 := hz; omega
        have hz1 : zq_HZ S1 (zq_pAdv T n p) := by
          have := hB1.2
          unfold zq_HZ; split <;> omega
        have hc1 : zq_ClR S1 := by unfold zq_ClR; rw [hcl1]; exact hc
        obtain ⟨r2, c2, S2, L2, ns2, y1, y2, y3, y4, y5, y6, y7, y8, y9⟩ := hFG c S1 (B ++ X) _ hP1 e2 hz1 hc1
        have hat2 := zq_QS_at y4
        have hlen2 : (B ++ X ++ L2).length ≤ 32000 := by
          have := y2.2.2.2.1; have := y7.2; have := hB1.2; omega
        obtain ⟨r3, j1, j2⟩ := zq_w_join y2 (by omega) (zq_NG_app hg) y5 y6 (zq_tA T n p)
        generalize hcl3 : (if ns ≠ [] ∧ ns2 ≠ [] ∧ S2.qr_clashPlace = -1 ∧ ns.map (zq_nmx T) ≠ ns2.map (zq_nmx T) then zq_tA T n p else S2.qr_clashPlace) = cl3 at j1
        have hP3 := zq_PB_cl y2 cl3
        obtain ⟨c4, o4, z4, a1, a2, a3⟩ := zq_w_pgadd hP3 hlen2 (zq_tK T n p)
        have hz4 : z4 = S2.pg_size + 1 := by
          have := a2.2.2.2.1
          have e : (zq_ow (WS.w_qr_clashPlace S2 cl3) o4 z4).pg_size = z4 := rfl
          rw [e] at this; rw [this, y2.2.2.2.1]; simp; omega
        have b4 : zq_BE S2 (zq_ow (WS.w_qr_clashPlace S2 cl3) o4 z4) 1 := ⟨Int.le_refl _, by show z4 - 3 * S2.lx_at ≤ _; omega⟩
        have q4 := zq_QS_ow o4 z4 (zq_QS_cl cl3 y4)
        have hF4 : zq_FR c S c4 (zq_ow (WS.w_qr_clashPlace S2 cl3) o4 z4) := zq_FR_trans hF1 (zq_FR_trans y3 (zq_FR_trans (zq_FR_cl c2 S2 cl3) (zq_FR_ow _ o4 z4 a3)))
        have hcl4 : (zq_ow (WS.w_qr_clashPlace S2 cl3) o4 z4).qr_clashPlace = cl3 := rfl
        have hat4 : (zq_ow (WS.w_qr_clashPlace S2 cl3) o4 z4).lx_at = S2.lx_at := rfl
        have hsz4 : (zq_ow (WS.w_qr_clashPlace S2 cl3) o4 z4).pg_size = z4 := rfl
        generalize zq_ow (WS.w_qr_clashPlace S2 cl3) o4 z4 = S4 at *
        have hc4 : zq_ClR S4 := by
          unfold zq_ClR; rw [hcl4, ← hcl3]
          have := zq_tA_ge T n p; have := hl.1.1; have := zq_tA_le (T := T) hl.1.2.1
          split
          · omega
          · exact y6
        have hstep : zq_gl sgn F (f + 1) c d r ((m + 1 : Nat) : Int) S = zq_gl sgn F f c4 d r3 (m : Int) S4 := by
          rw [zq_gl, zq_w32i (z := ((m + 1 : Nat) : Int)) (by omega) (by omega), if_neg (by omega)]
          refine (zq_mb2_eq (show s_Lx_kind c S = some (S.lx_kind, S) from rfl)).trans ?_
          refine (zq_mb1_eq (hsg.1 S.lx_kind hk.1 hk.2)).trans ?_
          rw [ek, c1, if_neg (by decide)]
          refine (zq_mb2_eq (show s_Lx_kind c S = some (zq_tK T n p, S) by rw [← ek]; rfl)).trans ?_
          refine (zq_mb2_eq (show s_Lx_at c S = some (zq_tA T n p, S) by rw [← ea]; rfl)).trans ?_
          refine (zq_mb2_eq e1).trans ?_
          refine (zq_mb3_eq y1).trans ?_
          refine (zq_mb2_eq j1).trans ?_
          refine (zq_mb3_eq a1).trans ?_
          rw [show ((m + 1 : Nat) : Int) + (-1) = (m : Int) by omega]
        rw [hstep]
        have eX : B ++ X ++ L2 ++ [zq_tK T n p] = B ++ (X ++ L2 ++ [zq_tK T n p]) := by simp
        rw [eX] at a2
        have j2' : zq_NG n (B ++ (X ++ L2 ++ [zq_tK T n p])) r3 (if ns = [] then ns2 else ns) := by rw [← eX]; exact zq_NG_app j2
        -- what comes after the second operand
        have ep : zq_pLoop T n G sg d (m + 1) os p = zq_pbd (zq_pAdv T n p) (fun q => zq_pbd (G d q) (fun y => zq_pLoop T n G sg d m (os ++ y.2 ++ [(zq_tK T n p, ll 0, zq_tA T n p, 0, [], [])]) y.1)) := by rw [zq_pLoop, if_pos c1]
        -- the state after it
        cases hs2 : zq_pbd (zq_pAdv T n p) (fun q => zq_pbd (G d q) (fun y => Except.ok y.1)) with
        | error e2' =>
          rw [hs2] at q4
          obtain ⟨r', c', S', X', ns', x1, x2, x3, x4, x5, x6, x7, x8, x9⟩ := zq_E_loop hsg hFG B m f c4 S4 (.error e2') r3 (if ns = [] then ns2 else ns) (X ++ L2 ++ [zq_tK T n p]) [] 0 (by omega) (by omega) a2 q4 (by unfold zq_HZ; show S4.pg_size ≤ 3 * S4.lx_at + 40; have := hB1.2; have := y7.2; omega) hc4 j2' (fun p z => by cases z)
          have epe : zq_pLoop T n G sg d (m + 1) os p = .error e2' := by
            rw [ep]
            cases hq : zq_pAdv T n p with
            | error e => rw [hq] at hs2; cases hs2; rfl
            | ok q =>
              rw [hq, zq_pbd_ok] at hs2
              rw [zq_pbd_ok]
              cases hgq : G d q with
              | error e => rw [hgq] at hs2; cases hs2; rfl
              | ok y => rw [hgq] at hs2; cases hs2
          refine ⟨r', c', S', X', ns', x1, x2, zq_FR_trans hF4 x3, by rw [epe]; exact x4, x5, x6, zq_BE_le (zq_BE_tr hB1 (zq_BE_tr y7 (zq_BE_tr b4 (x8 e2' rfl)))) (by omega), (fun e z => by cases z), fun p' y z1 z2 => ?_⟩
          cases z1; rw [epe] at z2; cases z2
        | ok q2 =>
          rw [hs2] at q4
          cases hq : zq_pAdv T n p with
          | error e => rw [hq] at hs2; cases hs2
          | ok q =>
            rw [hq, zq_pbd_ok] at hs2
            cases hgq : G d q with
            | error e => rw [hgq] at hs2; cases hs2
            | ok y =>
              rw [hgq] at hs2
              have hq2 : y.1 = q2 := by injection hs2
              obtain ⟨w1, w2, w3⟩ := y9 q y hq hgq
              have eos : ∀ st, zq_nrun T (os ++ y.2 ++ [(zq_tK T n p, ll 0, zq_tA T n p, 0, [], [])]) (st, cl0) = ((if ns = [] then ns2 else ns) :: st, cl3) := by
                intro st
                rw [zq_nrun_app, zq_nrun_app, hx2 st, ← hcl1, w3 (ns :: st)]
                show zq_nstep T (ns2 :: ns :: st, S2.qr_clashPlace) _ = _
                unfold zq_nstep
                rw [if_neg s3, if_neg s4, if_neg s5, ← hcl3]
                show (if ns = [] then _ else _) = _
                by_cases d1 : ns = []
                · rw [if_pos d1, if_pos d1, if_neg (by simp [d1])]
                · rw [if_neg d1, if_neg d1]
                  by_cases d2 : ns2 = []
                  · rw [if_pos d2, if_neg (by simp [d2])]
                  · rw [if_neg d2]
                    by_cases zq_d3 : S2.qr_clashPlace = -1 ∧ ns.map (zq_nmx T) ≠ ns2.map (zq_nmx T)
                    · rw [if_pos zq_d3, if_pos ⟨d1, d2, zq_d3⟩]
                    · rw [if_neg zq_d3, if_neg (fun z => zq_d3 z.2.2)]
              have exX : X ++ L2 ++ [zq_tK T n p] = zq_encOs (os ++ y.2 ++ [(zq_tK T n p, ll 0, zq_tA T n p, 0, [], [])]) := by
                rw [zq_encOs_app, zq_encOs_app, hx1, w1]
                have e1 : zq_encOs [(zq_tK T n p, ll 0, zq_tA T n p, 0, [], [])] = [zq_tK T n p] := by
                  show zq_encO _ ++ [] = _
                  rw [List.append_nil, zq_encO, if_neg s3, if_neg s4]
                rw [e1]
              obtain ⟨r', c', S', X', ns', x1, x2, x3, x4, x5, x6, x7, x8, x9⟩ := zq_E_loop hsg hFG B m f c4 S4 (.ok q2) r3 (if ns = [] then ns2 else ns) (X ++ L2 ++ [zq_tK T n p]) (os ++ y.2 ++ [(zq_tK T n p, ll 0, zq_tA T n p, 0, [], [])]) cl0 (by omega) (by omega) a2 q4 (by unfold zq_HZ; show S4.pg_size ≤ 3 * S4.lx_at + 0; have := hB1.2; have := w2.2; omega) hc4 j2' (fun p' z => ⟨exX, fun st => by rw [hcl4]; exact eos st⟩)
              have epo : zq_pLoop T n G sg d (m + 1) os p = zq_pLoop T n G sg d m (os ++ y.2 ++ [(zq_tK T n p, ll 0, zq_tA T n p, 0, [], [])]) q2 := by
                rw [ep, hq, zq_pbd_ok, hgq, zq_pbd_ok, hq2]
              refine ⟨r', c', S', X', ns', x1, x2, zq_FR_trans hF4 x3, by rw [epo]; exact x4, x5, x6, zq_BE_le (zq_BE_tr hB1 (zq_BE_tr w2 (zq_BE_tr b4 x7))) (by omega), (fun e z => by cases z), fun p' y' z1 z2 => ?_⟩
              cases z1
              rw [epo] at z2
              obtain ⟨v1, v2, v3⟩ := x9 q2 y' rfl z2
              exact ⟨v1, zq_BE_le (zq_BE_tr hB1 (zq_BE_tr w2 (zq_BE_tr b4 v2))) (by omega), v3⟩
      · have c1' : sg (zq_tK T n p) = false := by cases hh : sg (zq_tK T n p) with
          | false => rfl
          | true => exact absurd hh c1
        have ep : zq_pLoop T n G sg d (m + 1) os p = .ok (p, os) := by rw [zq_pLoop, if_neg c1]
        refine ⟨r, c, S, X, ns, stop (by rw [ek]; exact c1'), h, zq_FR_refl _ _, by rw [ep]; exact hs, hg, hc, zq_BE_le (zq_BE_refl S) (by omega), fun _ _ => zq_BE_refl S, fun p' y z1 z2 => ?_⟩
        cases z1; rw [ep] at z2; cases z2
        exact ⟨hx1, zq_BE_refl S, hx2⟩
set_option maxRecDepth 100000 in
/-- a first operand and its loop -/
theorem zq_w_chain {k : Nat} {T : Int → Int} {n : Int} {F H : zq_RF3} {G : zq_PF} {d : Int} {sgn : Int → Option Int} {sg : Int → Bool} (hsg : zq_SgOk sgn sg) (hFG : zq_RD k T n F G d) (hH : ∀ c S, H c S d = mb3 (F c S d) (fun r23 e23 S23 => mb2 (s_Tp_size e23 S23 ) (fun r24 S24 => zq_gl sgn F fU e23 d r23 r24 S24))) : zq_RD k T n H (fun d p => zq_pbd (G d p) (fun y => zq_pLoop T n G sg d n.toNat y.2 y.1)) d := by
  intro c S L s h hs hz hc
  have hn := h.2.1.2.2.2
  obtain ⟨r2, c2, S2, L2, ns2, y1, y2, y3, y4, y5, y6, y7, y8, y9⟩ := hFG c S L s h hs hz hc
  have hn2 := y2.2.1.2.2.1
  have hn0 := y2.2.1.1.1
  have hz2 : zq_HZ S2 (zq_pbd s (fun p => zq_pbd (G d p) (fun y => .ok y.1))) := by
    cases s with
    | error e => have := (y8 e rfl).2; unfold zq_HZ at hz ⊢; rw [show zq_pbd (Except.error e) (fun p => zq_pbd (G d p) (fun y => Except.ok y.1)) = .error e from rfl]; simp only at hz ⊢; omega
    | ok p =>
      rw [zq_pbd_ok]
      cases hg : G d p with
      | error e =>
        have := y7.2
        unfold zq_HZ at hz ⊢
        rw [show zq_pbd (Except.error (α := Int × List zq_Od) e) (fun y => Except.ok y.1) = .error e from rfl]; simp only at hz ⊢; omega
      | ok y =>
        have := (y9 p y rfl hg).2.1.2
        unfold zq_HZ at hz ⊢
        rw [zq_pbd_ok]; simp only at hz ⊢; omega
  have os0 : ∃ os : List zq_Od, ∀ p y, s = .ok p → G d p = .ok y → os = y.2 := by
    cases s with
    | error e => exact ⟨[], fun p y z => by cases z⟩
    | ok p =>
      cases hg : G d p with
      | error e => exact ⟨[], fun p' y z1 z2 => by cases z1; rw [hg] at z2; cases z2⟩
      | ok y => exact ⟨y.2, fun p' y' z1 z2 => by cases z1; rw [hg] at z2; cases z2; rfl⟩
  obtain ⟨os, hos⟩ := os0
  obtain ⟨r', c', S', X', ns', x1, x2, x3, x4, x5, x6, x7, x8, x9⟩ := zq_E_loop hsg hFG L n.toNat fU c2 S2 _ r2 ns2 L2 os S.qr_clashPlace (zq_fU_gt (by omega)) (by omega) y2 y4 hz2 y6 y5 (fun q hq => by
    cases s with
    | error e => cases hq
    | ok p =>
      rw [zq_pbd_ok] at hq
      cases hg : G d p with
      | error e => rw [hg] at hq; cases hq
      | ok y =>
        obtain ⟨w1, w2, w3⟩ := y9 p y rfl hg
        rw [hos p y rfl hg]; exact ⟨w1, w3⟩)
  have eH : H c S d = some (r', c', S') := by
    rw [hH, zq_mb3_eq y1]
    refine (zq_mb2_eq (zq_e_size c2 S2)).trans ?_
    rw [hn2, show n = ((n.toNat : Nat) : Int) by omega]
    exact x1
  refine ⟨r', c', S', X', ns', eH, x2, zq_FR_trans y3 x3, ?_, x5, x6, ?_, fun e he => ?_, fun p y hp hy => ?_⟩
  · cases s with
    | error e => exact x4
    | ok p =>
      show zq_QS T n S' (zq_pbd (zq_pbd (G d p) (fun y => zq_pLoop T n G sg d n.toNat y.2 y.1)) (fun y => .ok y.1))
      rw [zq_pbd_ok] at x4
      cases hg : G d p with
      | error e => rw [hg] at x4; exact x4
      | ok y =>
        rw [hg, zq_pbd_ok, zq_pbd_ok] at x4
        rw [zq_pbd_ok, ← hos p y rfl hg]
        exact x4
  · cases s with
    | error e => exact zq_BE_le (zq_BE_tr (y8 e rfl) (x8 e rfl)) (by omega)
    | ok p =>
      cases hg : G d p with
      | error e => exact zq_BE_le (zq_BE_tr y7 (x8 e (by rw [zq_pbd_ok, hg]; rfl))) (by omega)
      | ok y => exact zq_BE_le (zq_BE_tr (y9 p y rfl hg).2.1 x7) (by omega)
  · subst he
    exact zq_BE_le (zq_BE_tr (y8 e rfl) (x8 e rfl)) (by omega)
  · subst hp
    have hy : zq_pbd (G d p) (fun y => zq_pLoop T n G sg d n.toNat y.2 y.1) = .ok y := hy
    cases hg : G d p with
    | error e => rw [hg] at hy; cases hy
    | ok y0 =>
      rw [hg, zq_pbd_ok] at hy
      have ho := hos p y0 rfl hg
      obtain ⟨v1, v2, v3⟩ := x9 y0.1 y (by rw [zq_pbd_ok, hg]; rfl) (by rw [ho]; exact hy)
      exact ⟨v1, zq_BE_le (zq_BE_tr (y9 p y0 rfl hg).2.1 v2) (by omega), v3⟩
set_option maxRecDepth 100000 in
theorem zq_w_rdO {k : Nat} {T : Int → Int} {n : Int} : ∀ (m : Nat) (d : Int), 0 ≤ d → d ≤ 8 → 9 ≤ d + m → zq_RD k T n (rdO m).1 (zq_pO T n m).1 d ∧ zq_RD k T n (rdO m).2 (zq_pO T n m).2 d
  | 0, d => by omega
  | m + 1, d => by
    intro h0 h8 h9
    have hf : zq_RD k T n (s_QR_readFactor (rdO m).1 (rdO m).2) (zq_pFac T n (zq_pO T n m).1 (zq_pO T n m).2) d := zq_w_fac ⟨h0, h8⟩ (fun h => (zq_w_rdO m (d + 1) (by omega) (by omega) (by omega)).1) (fun h => (zq_w_rdO m (d + 1) (by omega) (by omega) (by omega)).2)
    have hp : zq_RD k T n (s_QR_readProduct (rdO m).1 (rdO m).2) (zq_pProd T n (zq_pO T n m).1 (zq_pO T n m).2) d := zq_w_chain zq_sgP hf (fun c S => by rw [s_QR_readProduct, zq_gl_prod])
    have hs : zq_RD k T n (s_QR_readSum (rdO m).1 (rdO m).2) (zq_pSum T n (zq_pO T n m).1 (zq_pO T n m).2) d := zq_w_chain zq_sgS hp (fun c S => by rw [s_QR_readSum, zq_gl_sum])
    exact ⟨hs, hf⟩
set_option maxRecDepth 100000 in
/-- what a read question leaves -/
def zq_FQ (c : CW) (S : WS) (c' : CW) (S' : WS) : Prop := (∃ oc bc bs, c' = zq_cwo c oc bc bs) ∧ ∃ k a b x o z fc fp cl r, S' = WS.w_qr_naming (zq_pw S k a b x o z fc fp cl) r
set_option maxRecDepth 100000 in
theorem zq_w_read {k : Nat} {c : CW} {S : WS} (g : zq_gdB k c S) (ht : c.tc ≤ 20500) (hk : k < 512) (hp : zq_tpI c S) (hn : S.tp_size ≤ 10240) :
    (∀ e, zq_pAll (zq_bt S) S.tp_size = .error e → ∃ c' S', s_QR_read c S = some (0, c', S') ∧ zq_FQ c S c' S' ∧ zq_gdB k c' S' ∧ S'.qr_faultCode = e.1 ∧ S'.qr_faultPlace = e.2) ∧
    (∀ os, zq_pAll (zq_bt S) S.tp_size = .ok os → ∃ c' S' ns cl, zq_nrun (zq_bt S) os ([], -1) = ([ns], cl) ∧ -1 ≤ cl ∧ zq_FQ c S c' S' ∧ zq_gdB k c' S' ∧
      ((cl ≠ -1 ∧ s_QR_read c S = some (0, c', S') ∧ S'.qr_faultCode = 5 ∧ S'.qr_faultPlace = cl) ∨
       (cl = -1 ∧ s_QR_read c S = some (1, c', S') ∧ S'.qr_faultCode = 0 ∧ S'.qr_faultPlace = 0 ∧ zq_PB k (zq_bt S) S.tp_size c' S' (zq_encOs os) ∧ zq_NG S.tp_size (zq_encOs os) S'.qr_naming ns))) := by
  have hT : zq_tpT (zq_bt S) S.tp_size := zq_bt_T hp
  have h0 := hp.1
  generalize hTT : zq_bt S = T at *
  generalize hnn : S.tp_size = n at *
  -- the start
  have hS1 : ∃ S1, zq_FR c S c S1 ∧ zq_PB k T n c S1 [] ∧ zq_QS T n S1 (if zq_tK T n 0 = 300 then .error (1, zq_tA T n 0) else .ok 0) ∧ zq_HZ S1 (if zq_tK T n 0 = 300 then .error (1, zq_tA T n 0) else .ok 0) ∧ S1.qr_clashPlace = -1 ∧ s_QR_read c S = mb3 ((rdO 10).1 c S1 0) (fun r15 e15 S15 => mb2 (s_Lx_kind e15 (WS.w_qr_naming S15 r15) ) (fun r16 S16 => if w32 r16 = 301 then q_QR_read_56 e15 S16 else mb2 (s_QR_refuse e15 S16 2) (fun r18 S18 => q_QR_read_56 e15 S18))) := by
    have e := zq_e_advance (c := c) (S := WS.w_lx_behind (WS.w_qr_clashPlace (WS.w_qr_faultPlace (WS.w_qr_faultCode (WS.w_pg_size S 0) 0) 0) (-1)) 0) hp (by show (0 : Int) ≤ 0; omega) (by show (0 : Int) ≤ 1000000; omega)
    have q := zq_tok_x T n 0 S.lx_number
    have ea : zq_adv (WS.w_lx_behind (WS.w_qr_clashPlace (WS.w_qr_faultPlace (WS.w_qr_faultCode (WS.w_pg_size S 0) 0) 0) (-1)) 0) = zq_pw S (zq_tK T n 0) (zq_tA T n 0) (zq_tB T n 0) (zq_tok T n 0 S.lx_number).2.2 S.pg_orders 0 0 0 (-1) := by
      unfold zq_adv
      rw [show zq_bt (WS.w_lx_behind (WS.w_qr_clashPlace (WS.w_qr_faultPlace (WS.w_qr_faultCode (WS.w_pg_size S 0) 0) 0) (-1)) 0) = T from hTT, show (WS.w_lx_behind (WS.w_qr_clashPlace (WS.w_qr_faultPlace (WS.w_qr_faultCode (WS.w_pg_size S 0) 0) 0) (-1)) 0).tp_size = n from hnn]
      show zq_lxs _ (zq_tok T n 0 S.lx_number).1 (zq_skp T n 0) (zq_tok T n 0 S.lx_number).2.1 (zq_tok T n 0 S.lx_number).2.2 = _
      rw [q.1, q.2.1]; rfl
    rw [ea] at e
    have ga := zq_tA_ge T n 0
    have gb := zq_tA_le (T := T) (show 0 ≤ n by omega)
    refine ⟨zq_pw S (zq_tK T n 0) (zq_tA T n 0) (zq_tB T n 0) (zq_tok T n 0 S.lx_number).2.2 S.pg_orders 0 0 0 (-1), ⟨⟨c.oc, c.bc, c.bs, rfl⟩, _, _, _, _, _, _, _, _, _, rfl⟩, ⟨⟨g, ht, hk⟩, ⟨hp, hTT, hnn, hn⟩, fun i x hx => by simp at hx, rfl, by have := g.2.2.2.2; show (0 : Int) ≤ c.oc; omega⟩, ?_, ?_, rfl, ?_⟩
    · by_cases c1 : zq_tK T n 0 = 300
      · rw [if_pos c1]
        exact ⟨⟨c1, ga, gb⟩, Or.inr ⟨rfl, rfl⟩⟩
      · rw [if_neg c1]
        exact ⟨⟨by omega, by omega, c1⟩, ⟨rfl, rfl, rfl, q.2.2⟩, rfl, rfl⟩
    · unfold zq_HZ
      show (0 : Int) ≤ 3 * zq_tA T n 0 + _
      split <;> omega
    · rw [s_QR_read]
      refine (zq_mb2_eq (show s_Pg_clear c S = some ((), WS.w_pg_size S 0) from rfl)).trans ?_
      refine (zq_mb2_eq (show s_Lx_start c (WS.w_qr_clashPlace (WS.w_qr_faultPlace (WS.w_qr_faultCode (WS.w_pg_size S 0) 0) 0) (-1)) = some ((), zq_pw S (zq_tK T n 0) (zq_tA T n 0) (zq_tB T n 0) (zq_tok T n 0 S.lx_number).2.2 S.pg_orders 0 0 0 (-1)) from ?_)).trans rfl
      rw [s_Lx_start]; exact zq_mb2_eq e
  obtain ⟨S1, f1, f2, f3, f4, f5, f6⟩ := hS1
  obtain ⟨r, c2, S2, L2, ns, y1, y2, y3, y4, y5, y6, y7, y8, y9⟩ := (zq_w_rdO (k := k) (T := T) (n := n) 10 0 (by omega) (by omega) (by omega)).1 c S1 [] _ f2 f3 f4 (by unfold zq_ClR; rw [f5]; omega)
  rw [List.nil_append] at y2 y5
  have hF := zq_FR_trans f1 y3
  rw [zq_mb3_eq y1] at f6
  have hk2 := zq_QS_kind hT y4
  have hqn : ∀ s, zq_QS T n S2 s → zq_QS T n (WS.w_qr_naming S2 r) s := fun s h => by cases s <;> exact h
  have hpb : zq_PB k T n c2 (WS.w_qr_naming S2 r) L2 := y2
  have hFQ : ∀ k' a b x fc fp, zq_FQ c S c2 (zq_lq (WS.w_qr_naming S2 r) k' a b x fc fp) := by
    intro k' a b x fc fp
    obtain ⟨h1, k0, a0, b0, x0, o0, z0, fc0, fp0, cl0, rfl⟩ := hF
    exact ⟨h1, k', a, b, x, o0, z0, fc, fp, cl0, r, rfl⟩
  have hg2 : zq_gdB k c2 S2 := y2.1.1
  -- dead at the end
  have deadF : ∀ e, zq_QS T n S2 (.error e) → ∃ c' S', s_QR_read c S = some (0, c', S') ∧ zq_FQ c S c' S' ∧ zq_gdB k c' S' ∧ S'.qr_faultCode = e.1 ∧ S'.qr_faultPlace = e.2 := by
    intro e he
    have hd : zq_DE n (WS.w_qr_naming S2 r) e := hqn _ he
    obtain ⟨fc, fp, e1, e2⟩ := zq_w_refuseD (c := c2) hd hn 2
    have h3 := e2.2
    have hfc : fc = e.1 ∧ fp = e.2 ∧ 1 ≤ e.1 ∧ e.1 ≤ 5 := by
      rcases h3 with ⟨a, b, d, d2⟩ | ⟨a, b⟩
      · exact ⟨a, b, d, d2⟩
      · exfalso
        have : fc = 0 := a
        -- a refusal always leaves a code
        subst this
        rw [s_QR_refuse] at e1
        rcases hd.2 with ⟨g1, g2, g3, g4⟩ | ⟨g1, g2⟩
        · rw [g1, zq_w32i (z := e.1) (by omega) (by omega), if_neg (by omega)] at e1
          have := congrArg (fun z : Option (Unit × WS) => match z with | some (_, W) => W.qr_faultCode | none => 0) e1
          have : (WS.w_qr_naming S2 r).qr_faultCode = 0 := this
          omega
        · rw [g1, if_pos (by decide)] at e1
          rw [show mb2 (s_Lx_kind c2 (WS.w_qr_naming S2 r)) (fun r9 S9 => if w32 r9 = 300 then q_QR_refuse_26 c2 1 S9 else q_QR_refuse_26 c2 2 S9) = if w32 (WS.w_qr_naming S2 r).lx_kind = 300 then q_QR_refuse_26 c2 1 (WS.w_qr_naming S2 r) else q_QR_refuse_26 c2 2 (WS.w_qr_naming S2 r) from rfl, hd.1.1, if_pos (by decide)] at e1
          have := congrArg (fun z : Option (Unit × WS) => match z with | some (_, W) => W.qr_faultCode | none => 0) e1
          have : (1 : Int) = 0 := this
          omega
    refine ⟨c2, zq_lq (WS.w_qr_naming S2 r) 300 (WS.w_qr_naming S2 r).lx_at (WS.w_qr_naming S2 r).lx_behind (WS.w_qr_naming S2 r).lx_number fc fp, ?_, hFQ _ _ _ _ _ _, hg2, hfc.1, hfc.2.1⟩
    rw [f6]
    show (if w32 S2.lx_kind = 301 then _ else _) = _
    rw [show S2.lx_kind = 300 from he.1.1, if_neg (by decide)]
    refine (zq_mb2_eq e1).trans ?_
    rw [q_QR_read_56]
    show (if w32 fc = 0 then _ else _) = _
    rw [hfc.1, zq_w32i (z := e.1) (by omega) (by omega), if_neg (by omega), q_QR_read_84]
    show (if w32 e.1 = 0 then _ else _) = _
    rw [zq_w32i (z := e.1) (by omega) (by omega), if_neg (by omega)]
  unfold zq_pAll
  by_cases c1 : zq_tK T n 0 = 300
  · rw [if_pos c1] at y4 ⊢
    refine ⟨fun e he => ?_, fun os he => by cases he⟩
    cases he
    exact deadF _ y4
  · rw [if_neg c1, zq_pbd_ok] at y4
    rw [if_neg c1]
    rw [if_neg c1] at y9
    cases hg : (zq_pO T n 10).1 0 0 with
    | error e =>
      rw [hg] at y4
      refine ⟨fun e' he => ?_, fun os he => by cases he⟩
      cases he
      exact deadF _ y4
    | ok y =>
      rw [hg, zq_pbd_ok] at y4
      rw [zq_pbd_ok]
      have hl : zq_LV T n S2 y.1 := y4
      obtain ⟨w1, w2, w3⟩ := y9 0 y rfl hg
      by_cases c2' : zq_tK T n y.1 = 301
      · rw [if_pos c2']
        refine ⟨(fun e he => by cases he), fun os he => ?_⟩
        cases he
        have zq_hrun := w3 []
        rw [f5] at zq_hrun
        have e7 : s_QR_read c S = q_QR_read_56 c2 (WS.w_qr_naming S2 r) := by
          rw [f6]
          show (if w32 S2.lx_kind = 301 then _ else _) = _
          rw [show S2.lx_kind = zq_tK T n y.1 from hl.2.1.1, c2', if_pos (by decide)]
        by_cases c3 : S2.qr_clashPlace = -1
        · refine ⟨c2, WS.w_qr_naming S2 r, ns, S2.qr_clashPlace, zq_hrun, by omega, ?_, hg2, Or.inr ⟨c3, ?_, hl.2.2.1, hl.2.2.2, ?_, ?_⟩⟩
          · exact hFQ S2.lx_kind S2.lx_at S2.lx_behind S2.lx_number S2.qr_faultCode S2.qr_faultPlace
          · rw [e7, q_QR_read_56]
            show (if w32 S2.qr_faultCode = 0 then (if w32 S2.qr_clashPlace = -1 then _ else _) else _) = _
            rw [hl.2.2.1, if_pos (by decide), c3, if_pos (by decide), q_QR_read_84]
            show (if w32 S2.qr_faultCode = 0 then _ else _) = _
            rw [hl.2.2.1, if_pos (by decide)]
          · rw [← w1]; exact hpb
          · rw [← w1]; exact y5
        · have hcl := y6
          unfold zq_ClR at hcl
          refine ⟨c2, zq_lq (WS.w_qr_naming S2 r) S2.lx_kind S2.lx_at S2.lx_behind S2.lx_number 5 S2.qr_clashPlace, ns, S2.qr_clashPlace, zq_hrun, by omega, ?_, hg2, Or.inl ⟨c3, ?_, rfl, rfl⟩⟩
          · exact hFQ _ _ _ _ _ _
          · rw [e7, q_QR_read_56]
            show (if w32 S2.qr_faultCode = 0 then (if w32 S2.qr_clashPlace = -1 then _ else _) else _) = _
            rw [hl.2.2.1, if_pos (by decide), zq_w32i (z := S2.qr_clashPlace) (by omega) (by omega), if_neg c3, q_QR_read_84]
            show (if w32 5 = 0 then _ else _) = _
            rw [if_neg (by decide)]; rfl
      · rw [if_neg c2']
        refine ⟨fun e he => ?_, fun os he => by cases he⟩
        cases he
        have hl2 : zq_LV T n (WS.w_qr_naming S2 r) y.1 := hl
        obtain ⟨e1, e2⟩ := zq_w_refuse (c := c2) hT hl2 (v := 2) (by omega)
        refine ⟨c2, zq_lq (WS.w_qr_naming S2 r) 300 (WS.w_qr_naming S2 r).lx_at (WS.w_qr_naming S2 r).lx_behind (WS.w_qr_naming S2 r).lx_number 2 (WS.w_qr_naming S2 r).lx_at, ?_, hFQ _ _ _ _ _ _, hg2, rfl, hl.2.1.2.1⟩
        have hkk := zq_tK_R hT y.1
        rw [f6]
        show (if w32 S2.lx_kind = 301 then _ else _) = _
        rw [show S2.lx_kind = zq_tK T n y.1 from hl.2.1.1, zq_w32i (z := zq_tK T n y.1) (by omega) (by omega), if_neg c2']
        refine (zq_mb2_eq e1).trans ?_
        rw [q_QR_read_56]
        show (if w32 2 = 0 then _ else _) = _
        rw [if_neg (by decide), q_QR_read_84]
        show (if w32 2 = 0 then _ else _) = _
        rw [if_neg (by decide)]
