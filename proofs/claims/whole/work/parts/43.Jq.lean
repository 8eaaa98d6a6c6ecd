/-! ===== claims that stand anywhere, and rows over them ===== -/
/-- the list has the claim P; put P' in its place and it is a list that Rl tells -/
def sg_at (L : List sg_A) (P : sg_A) (Rl : sg_A → List sg_A → Prop) : Prop := ∀ h, sg_l L h → ∃ f g : sg_F, sg_dj f g ∧ h = sg_un f g ∧ P f ∧ ∀ (P' : sg_A) (L' : List sg_A) (f' : sg_F), Rl P' L' → P' f' → sg_dj f' g → sg_l L' (sg_un f' g)
theorem sg_atk {L : List sg_A} {P : sg_A} (k : Nat) (hk : L[k]? = some P) : sg_at L P (fun P' L' => L.set k P' = L') := by
  intro h hl
  obtain ⟨f, g, d, e, p, m⟩ := sg_pull L k P h hk hl
  exact ⟨f, g, d, e, p, fun P' L' f' hr hp hd => hr ▸ m P' f' hp hd⟩
/-- a pool of lists: one cell of one of them -/
def sg_Rp (L : List sg_A) (q0 : Nat) (F : Nat → List sg_A) (n i k : Nat) (P' : sg_A) (L' : List sg_A) : Prop := ∃ F' : Nat → List sg_A, (∀ j, j ≠ i → F' j = F j) ∧ F' i = (F i).set k P' ∧ L.set q0 (sg_big (fun j => sg_l (F' j)) n) = L'
theorem sg_atp {L : List sg_A} {P : sg_A} {F : Nat → List sg_A} {n i : Nat} (q0 : Nat) (hq : L[q0]? = some (sg_big (fun j => sg_l (F j)) n)) (hi : i < n) (k : Nat) (hk : (F i)[k]? = some P) : sg_at L P (sg_Rp L q0 F n i k) := by
  intro h hl
  obtain ⟨f, g, d, e, p, m⟩ := sg_pull L q0 _ h hq hl
  obtain ⟨f1, g1, d1, e1, p1, m1⟩ := sg_big_pull (fun j => sg_l (F j)) n i hi f p
  obtain ⟨f2, g2, d2, e2, p2, m2⟩ := sg_pull (F i) k P f1 hk p1
  subst e1; subst e2
  have q1 := sg_un_dj.mp d1
  have q2 := sg_un_dj.mp d
  have q3 := sg_un_dj.mp q2.1
  refine ⟨f2, sg_un g2 (sg_un g1 g), sg_dj_un.mpr ⟨d2, sg_dj_un.mpr ⟨q1.1, q3.1⟩⟩, ?_, p2, ?_⟩
  · rw [e, sg_un_assoc, sg_un_assoc]
  · intro P' L' f' hr hp hd
    obtain ⟨F', r1, r2, r3⟩ := hr
    have e1 := sg_dj_un.mp hd
    have e2 := sg_dj_un.mp e1.2
    have a1 := m2 P' f' hp e1.1
    have a2 := m1 (sg_l ((F i).set k P')) (sg_un f' g2) a1 (sg_un_dj.mpr ⟨e2.1, q1.2⟩)
    have a3 := m _ (sg_un (sg_un f' g2) g1) a2 (sg_un_dj.mpr ⟨sg_un_dj.mpr ⟨e2.2, q3.2⟩, q2.2⟩)
    rw [sg_un_assoc, sg_un_assoc] at a3
    rw [← r3]
    have e4 : (fun j => if j = i then sg_l ((F i).set k P') else sg_l (F j)) = fun j => sg_l (F' j) := by
      funext j
      by_cases q : j = i
      · subst q; rw [if_pos rfl, r2]
      · rw [if_neg q, r1 j q]
    rw [e4] at a3
    exact a3
/-- a row of numbers with one set -/
def nU {α : Type} (f : Nat → α) (i : Nat) (x : α) : Nat → α := fun j => if j = i then x else f j
section JQ
variable {X : jx_T} {D : jd_T} {cc : ByteArray} {own : String} {ret : Option FieldType} {cs sl : Nat} {L : List sg_A} {lv : List (Nat × Value)} {pc : Nat} {st : List Value} {Rl : sg_A → List sg_A → Prop}
theorem jq_get {a ci k index : Nat} {fs : List Value} {v : Value} {ty : FieldType} {fin : Bool} (ok : jx_ok X D cc own ret) (hF : jt_F own index ci k ty fin) (hq : sg_at L (ob D a ci fs) Rl) (hv : fs[k]? = some v) (d : decode cc pc = .ok (.getfield index, 3))
    (kk : jw X cs sl L lv (pc + 3) (v :: st)) : jw X cs sl L lv pc (.ref a :: st) := by
  intro h H locs ls h1 h2 h3 h4 h5
  obtain ⟨C, T, N, ty0, ⟨hc, hin, hty, hnm⟩, hk, hlink, hty1, hfin⟩ := hF
  obtain ⟨f, g, dj, he, ⟨cell, r, hf, hcr, q2, q3, q4⟩, mk⟩ := hq h h1
  subst hf
  have hr : r = (C, T, N) := Option.some.inj (hcr.symm.trans hc)
  subst hr
  have hcell : H[a]? = some cell := h2 a cell (by rw [he]; exact sg_un_l (sg_1_at a cell))
  obtain ⟨hS, hfc, kC, hkC, hkind⟩ := ok.2.2.2.2.2.2.2.1.1.1 ci _ hc
  obtain ⟨cf, kf, fi, fd, hi, hsl⟩ := hS k hk
  refine W.getf ok.1 ok.2.1 ok.2.2.2.1 (ok.2.2.2.2.1 _ hlink) hi (u_facts hfc hkC (u_lays ok.2.2.2.2.1 hin hk) hi).1 hcell (by rw [q3]; exact fun z => by cases z) (v := v) ?_ rfl rfl d (kk h H locs ls h1 h2 h3 h4 h5)
  rw [hsl, q4 k hk]
  simp [vp_V, hv]
theorem jq_put {a ci k index : Nat} {fs : List Value} {v : Value} {ty : FieldType} (L' : List sg_A) (ok : jx_ok X D cc own ret) (hF : jt_F own index ci k ty false) (hq : sg_at L (ob D a ci fs) Rl) (hn : narrow ty v = v) (hfit : fits ty v = true) (hl : k < fs.length) (hL : Rl (ob D a ci (fs.set k v)) L') (d : decode cc pc = .ok (.putfield index, 3))
    (kk : jw X cs sl L' lv (pc + 3) st) : jw X cs sl L lv pc (v :: .ref a :: st) := by
  intro h H locs ls h1 h2 h3 h4 h5
  obtain ⟨C, T, N, ty0, ⟨hc, hin, hty, hnm⟩, hk, hlink, hty1, hfin⟩ := hF
  obtain ⟨f, g, dj, he, ⟨cell, r, hf, hcr, q2, q3, q4⟩, mk⟩ := hq h h1
  subst hf
  subst he
  have hr : r = (C, T, N) := Option.some.inj (hcr.symm.trans hc)
  subst hr
  have hcell : H[a]? = some cell := h2 a cell (sg_un_l (sg_1_at a cell))
  have hA : jx_A X a := h3 a cell (sg_un_l (sg_1_at a cell))
  have hap := va_apart (own := own) ok.2.2.2.2.1 hin ty0 hty hnm ok.2.2.2.2.2.2.2.1.1 hc
  obtain ⟨hS, hfc, kC, hkC, hkind⟩ := ok.2.2.2.2.2.2.2.1.1.1 ci _ hc
  obtain ⟨cf, kf, fi, fd, hi, hsl⟩ := hS k hk
  have hlay := ok.2.2.2.2.1 _ (hin _ (u_in_lay hk))
  unfold u_lay at hlay
  rw [if_neg (by rw [hfin]; decide)] at hlay
  have hst := (u_facts hfc hkC (u_lays ok.2.2.2.2.1 hin hk) hi).1
  have h6 := u_store hfc hkC hkind hlay hi (by rw [hty k hk, hty1]) hn hfit
  refine W.putK ok.1 ok.2.1 (f := fd) ⟨ok.2.2.2.1, ok.2.2.2.2.1 _ hlink, ⟨_, _, _, hi⟩, hst⟩ (by rw [q2]; exact h6) hcell q3 (by rw [hsl]; exact k2_hasslot (q4 k hk)) rfl rfl d fun H' e1 e2 e3 => ?_
  rw [hsl] at e1 ⊢
  have hnew := mk (ob D a ci (fs.set k v)) L' (sg_1 a (cell.setSlot (D.1.2 ci k) v)) hL ⟨_, _, rfl, hc, q2, q3, fun j hj => by rw [← vp_updV_set hl v j]; exact t_set q4 hap hk v j hj⟩ (sg_1_dj dj)
  refine kk _ H' _ ls hnew (sg_in_set dj h2 e1 e3) (fun q c hqc => ?_) (h4.put e2 e3 hA) h5
  rcases sg_un_some hqc with z | z
  · rw [(sg_1_some z).1]; exact hA
  · exact h3 q c (by rw [sg_un_comm dj]; exact sg_un_l z)
theorem jq_cell {P : sg_A} {a : Nat} {cell : Cell} {h : sg_F} {H : Heap} (hq : sg_at L P Rl) (hP : ∀ f, P f → f = sg_1 a cell) (h1 : sg_l L h) (h2 : sg_in h H) : H[a]? = some cell := by
  obtain ⟨f, g, dj, he, hp, mk⟩ := hq h h1
  have := hP f hp
  subst this
  exact h2 a cell (by rw [he]; exact sg_un_l (sg_1_at a cell))
/-- a write into an array's claim -/
theorem jq_cellset {P P' : sg_A} {a : Nat} {cell cell' : Cell} {h : sg_F} {H H' : Heap} {locs : List Loc} {i : Nat} {L' : List sg_A} (hq : sg_at L P Rl) (hP : ∀ f, P f → f = sg_1 a cell) (hP' : P' (sg_1 a cell')) (hL : Rl P' L') (h1 : sg_l L h) (h2 : sg_in h H) (h3 : ∀ (q : Nat) (c : Cell), h q = some c → jx_A X q) (h4 : va_S (jx_A X) (jx_s X).heap H locs)
    (e1 : H'[a]? = some cell') (e2 : H'.size = H.size) (e3 : ∀ q, q ≠ a → H'[q]? = H[q]?) : ∃ h', sg_l L' h' ∧ sg_in h' H' ∧ (∀ (q : Nat) (c : Cell), h' q = some c → jx_A X q) ∧ va_S (jx_A X) (jx_s X).heap H' (locs ++ [⟨a, i⟩]) := by
  obtain ⟨f, g, dj, he, hp, mk⟩ := hq h h1
  have := hP f hp
  subst this
  subst he
  have hA : jx_A X a := h3 a cell (sg_un_l (sg_1_at a cell))
  have hnew := mk P' L' _ hL hP' (sg_1_dj dj)
  refine ⟨_, hnew, sg_in_set dj h2 e1 e3, fun q c hqc => ?_, h4.put e2 e3 hA⟩
  rcases sg_un_some hqc with z | z
  · rw [(sg_1_some z).1]; exact hA
  · exact h3 q c (by rw [sg_un_comm dj]; exact sg_un_l z)
theorem jq_alen_i {t a : Nat} {n : Int} {f : Int → Int} {ty : FieldType} (ok : jx_ok X D cc own ret) (hq : sg_at L (ai D t a n f) Rl) (ht : (jk_tys D.2)[t]? = some (D.2 t, ty)) (d : decode cc pc = .ok (.arraylength, 1))
    (kk : jw X cs sl L lv (pc + 1) (.int (ii n) :: st)) : jw X cs sl L lv pc (.ref a :: st) := by
  intro h H locs ls h1 h2 h3 h4 h5
  have hn : 0 ≤ n := by
    obtain ⟨f, g, dj, he, hp, mk⟩ := hq h h1
    exact hp.1
  have hcell := jq_cell hq (fun f hp => hp.2.2) h1 h2
  exact W.alen (n := ii n) ok.1 ok.2.1 hcell ((ok.2.2.2.2.2.2.2.1.1.2 t _ ht).1 _ _) (by rw [arrV_size]; exact ii_len hn) rfl rfl d (kk h H locs ls h1 h2 h3 h4 h5)
theorem jq_alen_l {t a : Nat} {n : Int} {f : Int → Int64} {ty : FieldType} (ok : jx_ok X D cc own ret) (hq : sg_at L (al D t a n f) Rl) (ht : (jk_tys D.2)[t]? = some (D.2 t, ty)) (d : decode cc pc = .ok (.arraylength, 1))
    (kk : jw X cs sl L lv (pc + 1) (.int (ii n) :: st)) : jw X cs sl L lv pc (.ref a :: st) := by
  intro h H locs ls h1 h2 h3 h4 h5
  have hn : 0 ≤ n := by
    obtain ⟨f, g, dj, he, hp, mk⟩ := hq h h1
    exact hp.1
  have hcell := jq_cell hq (fun f hp => hp.2.2) h1 h2
  exact W.alen (n := ii n) ok.1 ok.2.1 hcell ((ok.2.2.2.2.2.2.2.1.1.2 t _ ht).1 _ _) (by rw [arrV_size]; exact ii_len hn) rfl rfl d (kk h H locs ls h1 h2 h3 h4 h5)
theorem jq_alen_q {t a : Nat} {n : Int} {f : Int → Value} {ty : FieldType} (ok : jx_ok X D cc own ret) (hq : sg_at L (aq D t a n f) Rl) (ht : (jk_tys D.2)[t]? = some (D.2 t, ty)) (d : decode cc pc = .ok (.arraylength, 1))
    (kk : jw X cs sl L lv (pc + 1) (.int (ii n) :: st)) : jw X cs sl L lv pc (.ref a :: st) := by
  intro h H locs ls h1 h2 h3 h4 h5
  have hn : 0 ≤ n := by
    obtain ⟨f, g, dj, he, hp, mk⟩ := hq h h1
    exact hp.1
  have hcell := jq_cell hq (fun f hp => hp.2.2) h1 h2
  exact W.alen (n := ii n) ok.1 ok.2.1 hcell ((ok.2.2.2.2.2.2.2.1.1.2 t _ ht).1 _ _) (by rw [arrV_size]; exact ii_len hn) rfl rfl d (kk h H locs ls h1 h2 h3 h4 h5)
theorem jq_iald {t a : Nat} {n i : Int} {f : Int → Int} (ok : jx_ok X D cc own ret) (hq : sg_at L (ai D t a n f) Rl) (ht : (jk_tys D.2)[t]? = some (D.2 t, .int)) (hi0 : 0 ≤ i) (hi1 : i < n) (d : decode cc pc = .ok (.iaload, 1))
    (kk : jw X cs sl L lv (pc + 1) (.int (ii (f i)) :: st)) : jw X cs sl L lv pc (.int (ii i) :: .ref a :: st) := by
  intro h H locs ls h1 h2 h3 h4 h5
  have hn : n ≤ 2147483647 := by
    obtain ⟨f, g, dj, he, hp, mk⟩ := hq h h1
    exact hp.2.1
  have hcell := jq_cell hq (fun f hp => hp.2.2) h1 h2
  have hiR : iR i := ⟨by omega, by omega⟩
  refine W.iald (v := .int (ii (f i))) ok.1 ok.2.1 hcell ((ok.2.2.2.2.2.2.2.1.1.2 t _ ht).1 _ _) (fun q => by cases q) (by show ¬ (_ < 0 ∨ (arrV _ _ _).slots.size ≤ _); rw [arrV_size]; exact ii_in hi0 hi1 hn) ?_ rfl rfl d (kk h H locs ls h1 h2 h3 h4 h5)
  rw [ii_clamp hiR, arrV_read _ _ (by omega), Int.toNat_of_nonneg hi0]
theorem jq_bald {t a : Nat} {n i : Int} {f : Int → Int} (ok : jx_ok X D cc own ret) (hq : sg_at L (ai D t a n f) Rl) (ht : (jk_tys D.2)[t]? = some (D.2 t, .byte)) (hi0 : 0 ≤ i) (hi1 : i < n) (d : decode cc pc = .ok (.baload, 1))
    (kk : jw X cs sl L lv (pc + 1) (.int (ii (f i)) :: st)) : jw X cs sl L lv pc (.int (ii i) :: .ref a :: st) := by
  intro h H locs ls h1 h2 h3 h4 h5
  have hn : n ≤ 2147483647 := by
    obtain ⟨f, g, dj, he, hp, mk⟩ := hq h h1
    exact hp.2.1
  have hcell := jq_cell hq (fun f hp => hp.2.2) h1 h2
  have hiR : iR i := ⟨by omega, by omega⟩
  refine W.bald (v := .int (ii (f i))) ok.1 ok.2.1 hcell ((ok.2.2.2.2.2.2.2.1.1.2 t _ ht).1 _ _) (fun q => by cases q) (by show ¬ (_ < 0 ∨ (arrV _ _ _).slots.size ≤ _); rw [arrV_size]; exact ii_in hi0 hi1 hn) ?_ rfl rfl d (kk h H locs ls h1 h2 h3 h4 h5)
  rw [ii_clamp hiR, arrV_read _ _ (by omega), Int.toNat_of_nonneg hi0]
theorem jq_zald {t a : Nat} {n i : Int} {f : Int → Int} (ok : jx_ok X D cc own ret) (hq : sg_at L (ai D t a n f) Rl) (ht : (jk_tys D.2)[t]? = some (D.2 t, .boolean)) (hi0 : 0 ≤ i) (hi1 : i < n) (d : decode cc pc = .ok (.baload, 1))
    (kk : jw X cs sl L lv (pc + 1) (.int (ii (f i)) :: st)) : jw X cs sl L lv pc (.int (ii i) :: .ref a :: st) := by
  intro h H locs ls h1 h2 h3 h4 h5
  have hn : n ≤ 2147483647 := by
    obtain ⟨f, g, dj, he, hp, mk⟩ := hq h h1
    exact hp.2.1
  have hcell := jq_cell hq (fun f hp => hp.2.2) h1 h2
  have hiR : iR i := ⟨by omega, by omega⟩
  refine W.zald (v := .int (ii (f i))) ok.1 ok.2.1 hcell ((ok.2.2.2.2.2.2.2.1.1.2 t _ ht).1 _ _) (fun q => by cases q) (by show ¬ (_ < 0 ∨ (arrV _ _ _).slots.size ≤ _); rw [arrV_size]; exact ii_in hi0 hi1 hn) ?_ rfl rfl d (kk h H locs ls h1 h2 h3 h4 h5)
  rw [ii_clamp hiR, arrV_read _ _ (by omega), Int.toNat_of_nonneg hi0]
theorem jq_cald {t a : Nat} {n i : Int} {f : Int → Int} (ok : jx_ok X D cc own ret) (hq : sg_at L (ai D t a n f) Rl) (ht : (jk_tys D.2)[t]? = some (D.2 t, .char)) (hi0 : 0 ≤ i) (hi1 : i < n) (d : decode cc pc = .ok (.caload, 1))
    (kk : jw X cs sl L lv (pc + 1) (.int (ii (f i)) :: st)) : jw X cs sl L lv pc (.int (ii i) :: .ref a :: st) := by
  intro h H locs ls h1 h2 h3 h4 h5
  have hn : n ≤ 2147483647 := by
    obtain ⟨f, g, dj, he, hp, mk⟩ := hq h h1
    exact hp.2.1
  have hcell := jq_cell hq (fun f hp => hp.2.2) h1 h2
  have hiR : iR i := ⟨by omega, by omega⟩
  refine W.cald (v := .int (ii (f i))) ok.1 ok.2.1 hcell ((ok.2.2.2.2.2.2.2.1.1.2 t _ ht).1 _ _) (fun q => by cases q) (by show ¬ (_ < 0 ∨ (arrV _ _ _).slots.size ≤ _); rw [arrV_size]; exact ii_in hi0 hi1 hn) ?_ rfl rfl d (kk h H locs ls h1 h2 h3 h4 h5)
  rw [ii_clamp hiR, arrV_read _ _ (by omega), Int.toNat_of_nonneg hi0]
theorem jq_lald {t a : Nat} {n i : Int} {f : Int → Int64} (ok : jx_ok X D cc own ret) (hq : sg_at L (al D t a n f) Rl) (ht : (jk_tys D.2)[t]? = some (D.2 t, .long)) (hi0 : 0 ≤ i) (hi1 : i < n) (d : decode cc pc = .ok (.laload, 1))
    (kk : jw X cs sl L lv (pc + 1) (.long (f i) :: st)) : jw X cs sl L lv pc (.int (ii i) :: .ref a :: st) := by
  intro h H locs ls h1 h2 h3 h4 h5
  have hn : n ≤ 2147483647 := by
    obtain ⟨f, g, dj, he, hp, mk⟩ := hq h h1
    exact hp.2.1
  have hcell := jq_cell hq (fun f hp => hp.2.2) h1 h2
  have hiR : iR i := ⟨by omega, by omega⟩
  refine W.lald (v := .long (f i)) ok.1 ok.2.1 hcell ((ok.2.2.2.2.2.2.2.1.1.2 t _ ht).1 _ _) (fun q => by cases q) (by show ¬ (_ < 0 ∨ (arrV _ _ _).slots.size ≤ _); rw [arrV_size]; exact ii_in hi0 hi1 hn) ?_ rfl rfl d (kk h H locs ls h1 h2 h3 h4 h5)
  rw [ii_clamp hiR, arrV_read _ _ (by omega), Int.toNat_of_nonneg hi0]
theorem jq_iast {t a : Nat} {n i : Int} {f : Int → Int} {x : Int} (L' : List sg_A) (ok : jx_ok X D cc own ret) (hq : sg_at L (ai D t a n f) Rl) (ht : (jk_tys D.2)[t]? = some (D.2 t, .int)) (hi0 : 0 ≤ i) (hi1 : i < n) (hL : Rl (ai D t a n (fun j => if j = i then x else f j)) L') (d : decode cc pc = .ok (.iastore, 1))
    (kk : jw X cs sl L' lv (pc + 1) st) : jw X cs sl L lv pc (.int (ii x) :: .int (ii i) :: .ref a :: st) := by
  intro h H locs ls h1 h2 h3 h4 h5
  have hn : n ≤ 2147483647 := by
    obtain ⟨f, g, dj, he, hp, mk⟩ := hq h h1
    exact hp.2.1
  have hcell := jq_cell hq (fun f hp => hp.2.2) h1 h2
  have hiR : iR i := ⟨by omega, by omega⟩
  refine W.iast ok.1 ok.2.1 hcell ((ok.2.2.2.2.2.2.2.1.1.2 t _ ht).1 _ _) (fun q => by cases q) (by show ¬ (_ < 0 ∨ (arrV _ _ _).slots.size ≤ _); rw [arrV_size]; exact ii_in hi0 hi1 hn) rfl rfl d fun H' e1 e2 e3 => ?_
  rw [arrV_store] at e1
  obtain ⟨h', a1, a2, a3, a4⟩ := jq_cellset (X := X) (P' := ai D t a n (fun j => if j = i then x else f j)) hq (fun f hp => hp.2.2) ⟨by omega, hn, rfl⟩ hL h1 h2 h3 h4 (by
    rw [e1]
    congr 2
    funext j
    rw [ii_clamp hiR]
    simp only [updV]
    by_cases hj : j = i.toNat
    · rw [if_pos hj, if_pos (by omega)]
    · rw [if_neg hj, if_neg (by omega)]) e2 e3
  exact kk h' H' _ ls a1 a2 a3 a4 h5
theorem jq_bast {t a : Nat} {n i : Int} {f : Int → Int} {x : Int} (L' : List sg_A) (ok : jx_ok X D cc own ret) (hq : sg_at L (ai D t a n f) Rl) (ht : (jk_tys D.2)[t]? = some (D.2 t, .byte)) (hi0 : 0 ≤ i) (hi1 : i < n) (hx : narrow .byte (.int (ii x)) = .int (ii x)) (hL : Rl (ai D t a n (fun j => if j = i then x else f j)) L') (d : decode cc pc = .ok (.bastore, 1))
    (kk : jw X cs sl L' lv (pc + 1) st) : jw X cs sl L lv pc (.int (ii x) :: .int (ii i) :: .ref a :: st) := by
  intro h H locs ls h1 h2 h3 h4 h5
  have hn : n ≤ 2147483647 := by
    obtain ⟨f, g, dj, he, hp, mk⟩ := hq h h1
    exact hp.2.1
  have hcell := jq_cell hq (fun f hp => hp.2.2) h1 h2
  have hiR : iR i := ⟨by omega, by omega⟩
  refine W.bast ok.1 ok.2.1 hcell ((ok.2.2.2.2.2.2.2.1.1.2 t _ ht).1 _ _) (fun q => by cases q) (by show ¬ (_ < 0 ∨ (arrV _ _ _).slots.size ≤ _); rw [arrV_size]; exact ii_in hi0 hi1 hn) rfl rfl d fun H' e1 e2 e3 => ?_
  rw [hx] at e1
  rw [arrV_store] at e1
  obtain ⟨h', a1, a2, a3, a4⟩ := jq_cellset (X := X) (P' := ai D t a n (fun j => if j = i then x else f j)) hq (fun f hp => hp.2.2) ⟨by omega, hn, rfl⟩ hL h1 h2 h3 h4 (by
    rw [e1]
    congr 2
    funext j
    rw [ii_clamp hiR]
    simp only [updV]
    by_cases hj : j = i.toNat
    · rw [if_pos hj, if_pos (by omega)]
    · rw [if_neg hj, if_neg (by omega)]) e2 e3
  exact kk h' H' _ ls a1 a2 a3 a4 h5
theorem jq_zast {t a : Nat} {n i : Int} {f : Int → Int} {x : Int} (L' : List sg_A) (ok : jx_ok X D cc own ret) (hq : sg_at L (ai D t a n f) Rl) (ht : (jk_tys D.2)[t]? = some (D.2 t, .boolean)) (hi0 : 0 ≤ i) (hi1 : i < n) (hx : narrow .boolean (.int (ii x)) = .int (ii x)) (hL : Rl (ai D t a n (fun j => if j = i then x else f j)) L') (d : decode cc pc = .ok (.bastore, 1))
    (kk : jw X cs sl L' lv (pc + 1) st) : jw X cs sl L lv pc (.int (ii x) :: .int (ii i) :: .ref a :: st) := by
  intro h H locs ls h1 h2 h3 h4 h5
  have hn : n ≤ 2147483647 := by
    obtain ⟨f, g, dj, he, hp, mk⟩ := hq h h1
    exact hp.2.1
  have hcell := jq_cell hq (fun f hp => hp.2.2) h1 h2
  have hiR : iR i := ⟨by omega, by omega⟩
  refine W.zast ok.1 ok.2.1 hcell ((ok.2.2.2.2.2.2.2.1.1.2 t _ ht).1 _ _) (fun q => by cases q) (by show ¬ (_ < 0 ∨ (arrV _ _ _).slots.size ≤ _); rw [arrV_size]; exact ii_in hi0 hi1 hn) rfl rfl d fun H' e1 e2 e3 => ?_
  rw [hx] at e1
  rw [arrV_store] at e1
  obtain ⟨h', a1, a2, a3, a4⟩ := jq_cellset (X := X) (P' := ai D t a n (fun j => if j = i then x else f j)) hq (fun f hp => hp.2.2) ⟨by omega, hn, rfl⟩ hL h1 h2 h3 h4 (by
    rw [e1]
    congr 2
    funext j
    rw [ii_clamp hiR]
    simp only [updV]
    by_cases hj : j = i.toNat
    · rw [if_pos hj, if_pos (by omega)]
    · rw [if_neg hj, if_neg (by omega)]) e2 e3
  exact kk h' H' _ ls a1 a2 a3 a4 h5
theorem jq_last {t a : Nat} {n i : Int} {f : Int → Int64} {x : Int64} (L' : List sg_A) (ok : jx_ok X D cc own ret) (hq : sg_at L (al D t a n f) Rl) (ht : (jk_tys D.2)[t]? = some (D.2 t, .long)) (hi0 : 0 ≤ i) (hi1 : i < n) (hL : Rl (al D t a n (fun j => if j = i then x else f j)) L') (d : decode cc pc = .ok (.lastore, 1))
    (kk : jw X cs sl L' lv (pc + 1) st) : jw X cs sl L lv pc (.long (x) :: .int (ii i) :: .ref a :: st) := by
  intro h H locs ls h1 h2 h3 h4 h5
  have hn : n ≤ 2147483647 := by
    obtain ⟨f, g, dj, he, hp, mk⟩ := hq h h1
    exact hp.2.1
  have hcell := jq_cell hq (fun f hp => hp.2.2) h1 h2
  have hiR : iR i := ⟨by omega, by omega⟩
  refine W.last ok.1 ok.2.1 hcell ((ok.2.2.2.2.2.2.2.1.1.2 t _ ht).1 _ _) (fun q => by cases q) (by show ¬ (_ < 0 ∨ (arrV _ _ _).slots.size ≤ _); rw [arrV_size]; exact ii_in hi0 hi1 hn) rfl rfl d fun H' e1 e2 e3 => ?_
  rw [arrV_store] at e1
  obtain ⟨h', a1, a2, a3, a4⟩ := jq_cellset (X := X) (P' := al D t a n (fun j => if j = i then x else f j)) hq (fun f hp => hp.2.2) ⟨by omega, hn, rfl⟩ hL h1 h2 h3 h4 (by
    rw [e1]
    congr 2
    funext j
    rw [ii_clamp hiR]
    simp only [updV]
    by_cases hj : j = i.toNat
    · rw [if_pos hj, if_pos (by omega)]
    · rw [if_neg hj, if_neg (by omega)]) e2 e3
  exact kk h' H' _ ls a1 a2 a3 a4 h5
theorem jq_aald {t a : Nat} {n i : Int} {f : Int → Value} {ty : FieldType} (ok : jx_ok X D cc own ret) (hq : sg_at L (aq D t a n f) Rl) (ht : (jk_tys D.2)[t]? = some (D.2 t, ty)) (hty : ty.isReference = true) (hi0 : 0 ≤ i) (hi1 : i < n) (d : decode cc pc = .ok (.aaload, 1))
    (kk : jw X cs sl L lv (pc + 1) (f i :: st)) : jw X cs sl L lv pc (.int (ii i) :: .ref a :: st) := by
  intro h H locs ls h1 h2 h3 h4 h5
  have hn : n ≤ 2147483647 := by
    obtain ⟨f, g, dj, he, hp, mk⟩ := hq h h1
    exact hp.2.1
  have hcell := jq_cell hq (fun f hp => hp.2.2) h1 h2
  have hiR : iR i := ⟨by omega, by omega⟩
  refine W.aald (v := f i) ok.1 ok.2.1 hcell ((ok.2.2.2.2.2.2.2.1.1.2 t _ ht).1 _ _) hty (fun q => by cases q) (by show ¬ (_ < 0 ∨ (arrV _ _ _).slots.size ≤ _); rw [arrV_size]; exact ii_in hi0 hi1 hn) ?_ rfl rfl d (kk h H locs ls h1 h2 h3 h4 h5)
  rw [ii_clamp hiR, arrV_read _ _ (by omega), Int.toNat_of_nonneg hi0]

end JQ
