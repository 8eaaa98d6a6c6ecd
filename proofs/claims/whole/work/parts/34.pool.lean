/-! ===== the series of a store: any number of them, each of eight cells ===== -/
abbrev ZS : Type := (Nat × Nat × Nat × Nat × Nat × Nat × Nat × Nat) × (Int × Int × Int × Int × Int × Int) × ((Int → Int) × (Int → Int) × (Int → Int) × (Int → Int)) × (Int → Int64) × (Int → Int64)
/-- addresses: the series, its letters, starts, signs, ends, its points, their times, their values -/
abbrev zA (z : ZS) : Nat := z.1.1
abbrev zLb (z : ZS) : Nat := z.1.2.1
abbrev zSb (z : ZS) : Nat := z.1.2.2.1
abbrev zGb (z : ZS) : Nat := z.1.2.2.2.1
abbrev zEb (z : ZS) : Nat := z.1.2.2.2.2.1
abbrev zPa (z : ZS) : Nat := z.1.2.2.2.2.2.1
abbrev zTb (z : ZS) : Nat := z.1.2.2.2.2.2.2.1
abbrev zVb (z : ZS) : Nat := z.1.2.2.2.2.2.2.2
/-- numbers: how many letters, labels, points; packed; last time; the room of the points -/
abbrev zLn (z : ZS) : Int := z.2.1.1
abbrev zM (z : ZS) : Int := z.2.1.2.1
abbrev zN (z : ZS) : Int := z.2.1.2.2.1
abbrev zPk (z : ZS) : Int := z.2.1.2.2.2.1
abbrev zLast (z : ZS) : Int := z.2.1.2.2.2.2.1
abbrev zCap (z : ZS) : Int := z.2.1.2.2.2.2.2
abbrev zF (z : ZS) : Int → Int := z.2.2.1.1
abbrev zS (z : ZS) : Int → Int := z.2.2.1.2.1
abbrev zG (z : ZS) : Int → Int := z.2.2.1.2.2.1
abbrev zE (z : ZS) : Int → Int := z.2.2.1.2.2.2
abbrev zT (z : ZS) : Int → Int64 := z.2.2.2.1
abbrev zV (z : ZS) : Int → Int64 := z.2.2.2.2
def serL (D : jd_T) (z : ZS) : List sg_A := [ob D (zA z) 9 [.ref (zLb z), .ref (zSb z), .ref (zGb z), .ref (zEb z), .ref (zPa z)], ai D 1 (zLb z) (zLn z) (zF z), ai D 0 (zSb z) (zM z) (zS z), ai D 0 (zGb z) (zM z) (zG z), ai D 0 (zEb z) (zM z) (zE z), ob D (zPa z) 6 [.ref (zTb z), .ref (zVb z), .int (ii (zN z)), .int (ii (zPk z)), .long (ll (zLast z))], al D 2 (zTb z) (zCap z) (zT z), al D 2 (zVb z) (zCap z) (zV z)]
def serA (D : jd_T) (z : ZS) : sg_A := sg_l (serL D z)
def poolA (D : jd_T) (Z : Nat → ZS) (n : Nat) : sg_A := sg_big (fun j => serA D (Z j)) n
/-- the pool without one of them -/
def holeA (D : jd_T) (Z : Nat → ZS) (n i : Nat) : sg_A := sg_big (fun j => if j = i then sg_e else serA D (Z j)) n
theorem pool_take {D : jd_T} {Z : Nat → ZS} {n i : Nat} (hi : i < n) {h : sg_F} (k : poolA D Z n h) : sg_s (serA D (Z i)) (holeA D Z n i) h := by
  obtain ⟨f, g, dj, e, p, m⟩ := sg_big_pull (fun j => serA D (Z j)) n i hi h k
  have := m sg_e sg_0 rfl (sg_0_dj g)
  rw [sg_0_un] at this
  exact ⟨f, g, dj, e, p, this⟩
theorem pool_give {D : jd_T} {Z : Nat → ZS} {n i : Nat} (z : ZS) (hi : i < n) {h : sg_F} (k : sg_s (serA D z) (holeA D Z n i) h) : poolA D (fun j => if j = i then z else Z j) n h := by
  obtain ⟨f, g, dj, e, p, m⟩ := k
  obtain ⟨f1, g1, dj1, e1, p1, m1⟩ := sg_big_pull _ n i hi g m
  have hf1 : f1 = sg_0 := by
    have : (if i = i then sg_e else serA D (Z i)) f1 := p1
    rw [if_pos rfl] at this
    exact this
  subst hf1
  rw [sg_0_un] at e1
  subst e1
  have r := m1 (serA D z) f p dj
  rw [← e] at r
  have e2 : (fun j => if j = i then serA D z else (fun j => if j = i then sg_e else serA D (Z j)) j) = fun j => serA D (if j = i then z else Z j) := by
    funext j
    by_cases q : j = i
    · simp [q]
    · simp [q]
  rw [e2] at r
  exact r
theorem pool_back {D : jd_T} {Z : Nat → ZS} {n i : Nat} (hi : i < n) {h : sg_F} (k : sg_s (serA D (Z i)) (holeA D Z n i) h) : poolA D Z n h := by
  have := pool_give (Z i) hi k
  rw [show (fun j => if j = i then Z i else Z j) = Z from by
    funext j
    by_cases q : j = i
    · subst q; simp
    · simp [q]] at this
  exact this
theorem pool_push {D : jd_T} {Z : Nat → ZS} {n : Nat} (z : ZS) {h : sg_F} (k : sg_s (serA D z) (poolA D Z n) h) : poolA D (fun j => if j = n then z else Z j) (n + 1) h := by
  obtain ⟨f, g, dj, e, p, q⟩ := k
  refine ⟨g, f, dj.symm, by rw [e]; exact sg_un_comm dj, ?_, ?_⟩
  · rw [sg_big_congr (P' := fun j => serA D (Z j)) n (fun i hi => by show serA D (if i = n then z else Z i) = _; rw [if_neg (by omega)])]
    exact q
  · show serA D (if n = n then z else Z n) f
    rw [if_pos rfl]
    exact p
section JP
variable {X : jx_T} {D : jd_T} {cs sl : Nat} {L : List sg_A} {lv : List (Nat × Value)} {pc : Nat} {st : List Value} {Z : Nat → ZS} {n i : Nat}
/-- one series of the pool is taken out: its cells stand first -/
theorem jr_take (q0 : Nat) (hq : L[q0]? = some (poolA D Z n)) (hi : i < n) (k : jw X cs sl (serL D (Z i) ++ L.set q0 (holeA D Z n i)) lv pc st) : jw X cs sl L lv pc st := by
  refine jr_ent (fun h hl => ?_) k
  obtain ⟨f, g, dj, e, p, m⟩ := sg_pull L q0 _ h hq hl
  obtain ⟨f1, f2, d1, e1, p1, p2⟩ := pool_take hi p
  subst e1
  have d2 := sg_un_dj.mp dj
  have := m (holeA D Z n i) f2 p2 d2.2
  refine (sg_l_app _ _ _).mpr ⟨f1, sg_un f2 g, sg_dj_un.mpr ⟨d1, d2.1⟩, ?_, p1, this⟩
  rw [e, sg_un_assoc]
/-- and put back, changed or not -/
theorem jr_give {Lr : List sg_A} (z : ZS) (q0 : Nat) (hL : L = serL D z ++ Lr) (hq : Lr[q0]? = some (holeA D Z n i)) (hi : i < n) (k : jw X cs sl (Lr.set q0 (poolA D (fun j => if j = i then z else Z j) n)) lv pc st) : jw X cs sl L lv pc st := by
  subst hL
  refine jr_ent (fun h hl => ?_) k
  obtain ⟨f, g, dj, e, p, q⟩ := (sg_l_app _ _ _).mp hl
  obtain ⟨f1, g1, d1, e1, p1, m⟩ := sg_pull Lr q0 _ g hq q
  subst e1
  have d2 := sg_dj_un.mp dj
  have := m (poolA D (fun j => if j = i then z else Z j) n) (sg_un f f1) (pool_give z hi ⟨f, f1, d2.1, rfl, p, p1⟩) (sg_un_dj.mpr ⟨d2.2, d1⟩)
  rw [e, ← sg_un_assoc]
  exact this
theorem jr_back {Lr : List sg_A} (q0 : Nat) (hL : L = serL D (Z i) ++ Lr) (hq : Lr[q0]? = some (holeA D Z n i)) (hi : i < n) (k : jw X cs sl (Lr.set q0 (poolA D Z n)) lv pc st) : jw X cs sl L lv pc st := by
  refine jr_give (Z i) q0 hL hq hi ?_
  rw [show (fun j => if j = i then Z i else Z j) = Z from by
    funext j
    by_cases q : j = i
    · subst q; simp
    · simp [q]]
  exact k
end JP
