/-! ===== rows of the judgement: fields, arrays, new cells ===== -/
/-- a class of vwCl, its fields' words among the words -/
def jt_C (ci : Nat) (C : String) (T : u_T) (N : Nat) (ty : Nat → FieldType) : Prop := vwCl[ci]? = some (C, T, N) ∧ (∀ w ∈ u_ws C T N, w ∈ jw_all) ∧ (∀ k, k < N → parseFieldDescriptor (T k).2.2.1 = some (ty k)) ∧ (∀ a, a < N → ∀ b, b < N → a ≠ b → (T a).2.1 ≠ (T b).2.1)
/-- a field by its pool number in a class: class, place, type, final -/
def jt_F (own : String) (index ci k : Nat) (ty : FieldType) (fin : Bool) : Prop := ∃ (C : String) (T : u_T) (N : Nat) (ty0 : Nat → FieldType), jt_C ci C T N ty0 ∧ k < N ∧ Cond.fieldLink own index (T k).1 (T k).2.1 (T k).2.2.1 ∈ jw_all ∧ ty0 k = ty ∧ (T k).2.2.2 = fin
section JH
variable {X : jx_T} {D : jd_T} {cc : ByteArray} {own : String} {ret : Option FieldType} {cs sl : Nat} {L : List sg_A} {lv : List (Nat × Value)} {pc : Nat} {st : List Value}
theorem jr_get {a ci k index : Nat} {fs : List Value} {v : Value} {ty : FieldType} {fin : Bool} (ok : jx_ok X D cc own ret) (q0 : Nat) (hF : jt_F own index ci k ty fin) (hq : L[q0]? = some (ob D a ci fs)) (hv : fs[k]? = some v) (d : decode cc pc = .ok (.getfield index, 3))
    (kk : jw X cs sl L lv (pc + 3) (v :: st)) : jw X cs sl L lv pc (.ref a :: st) := by
  intro h H locs ls h1 h2 h3 h4 h5
  obtain ⟨C, T, N, ty0, ⟨hc, hin, hty, hnm⟩, hk, hlink, hty1, hfin⟩ := hF
  obtain ⟨f, g, dj, he, ⟨cell, r, hf, hcr, q2, q3, q4⟩, mk⟩ := sg_pull L q0 _ h hq h1
  subst hf
  have hr : r = (C, T, N) := Option.some.inj (hcr.symm.trans hc)
  subst hr
  have hcell : H[a]? = some cell := h2 a cell (by rw [he]; exact sg_un_l (sg_1_at a cell))
  obtain ⟨hS, hfc, kC, hkC, hkind⟩ := ok.2.2.2.2.2.2.2.1.1.1 ci _ hc
  obtain ⟨cf, kf, fi, fd, hi, hsl⟩ := hS k hk
  refine W.getf ok.1 ok.2.1 ok.2.2.2.1 (ok.2.2.2.2.1 _ hlink) hi (u_facts hfc hkC (u_lays ok.2.2.2.2.1 hin hk) hi).1 hcell (by rw [q3]; exact fun z => by cases z) (v := v) ?_ rfl rfl d (kk h H locs ls h1 h2 h3 h4 h5)
  rw [hsl, q4 k hk]
  simp [vp_V, hv]
theorem jr_put {a ci k index : Nat} {fs : List Value} {v : Value} {ty : FieldType} (L' : List sg_A) (ok : jx_ok X D cc own ret) (q0 : Nat) (hF : jt_F own index ci k ty false) (hq : L[q0]? = some (ob D a ci fs)) (hn : narrow ty v = v) (hfit : fits ty v = true) (hl : k < fs.length) (hL : L.set q0 (ob D a ci (fs.set k v)) = L') (d : decode cc pc = .ok (.putfield index, 3))
    (kk : jw X cs sl L' lv (pc + 3) st) : jw X cs sl L lv pc (v :: .ref a :: st) := by
  intro h H locs ls h1 h2 h3 h4 h5
  obtain ⟨C, T, N, ty0, ⟨hc, hin, hty, hnm⟩, hk, hlink, hty1, hfin⟩ := hF
  obtain ⟨f, g, dj, he, ⟨cell, r, hf, hcr, q2, q3, q4⟩, mk⟩ := sg_pull L q0 _ h hq h1
  subst hf
  subst he
  have hr : r = (C, T, N) := Option.some.inj (hcr.symm.trans hc)
  subst hr
  have hcell : H[a]? = some cell := h2 a cell (sg_un_l (sg_1_at a cell))
  have hA : jx_A X a := h3 a cell (sg_un_l (sg_1_at a cell))
  have hap := va_apart (own := own) ok.2.2.2.2.1 hin ty0 hty hnm ok.2.2.2.2.2.2.2.1.1 hc
  obtain ⟨hS, hfc, kC, hkC, hkind⟩ := ok.2.2.2.2.2.2.2.1.1.1 ci _ hc
  obtain ⟨cf, kf, fi, fd, hi, hsl⟩ := hS k hk
  have hlay := ok.2.2.2.2.1 _ (hin _ (u_in_lay hk))
  unfold u_lay at hlay
  rw [if_neg (by rw [hfin]; decide)] at hlay
  have hst := (u_facts hfc hkC (u_lays ok.2.2.2.2.1 hin hk) hi).1
  have h6 := u_store hfc hkC hkind hlay hi (by rw [hty k hk, hty1]) hn hfit
  refine W.putK ok.1 ok.2.1 (f := fd) ⟨ok.2.2.2.1, ok.2.2.2.2.1 _ hlink, ⟨_, _, _, hi⟩, hst⟩ (by rw [q2]; exact h6) hcell q3 (by rw [hsl]; exact k2_hasslot (q4 k hk)) rfl rfl d fun H' e1 e2 e3 => ?_
  rw [hsl] at e1 ⊢
  have hnew := mk (ob D a ci (fs.set k v)) (sg_1 a (cell.setSlot (D.1.2 ci k) v)) ⟨_, _, rfl, hc, q2, q3, fun j hj => by rw [← vp_updV_set hl v j]; exact t_set q4 hap hk v j hj⟩ (sg_1_dj dj)
  rw [hL] at hnew
  refine kk _ H' _ ls hnew (sg_in_set dj h2 e1 e3) (fun q c hqc => ?_) (h4.put e2 e3 hA) h5
  rcases sg_un_some hqc with z | z
  · rw [(sg_1_some z).1]; exact hA
  · exact h3 q c (by rw [sg_un_comm dj]; exact sg_un_l z)
theorem jr_putF {a ci k index : Nat} {fs : List Value} {v : Value} {ty : FieldType} (L' : List sg_A) (ok : jx_ok X D cc own ret) (hin2 : (jx_t X).name = "<init>") (q0 : Nat) (hF : jt_F own index ci k ty true) (hdecl : ∀ (C : String) (T : u_T) (N : Nat), vwCl[ci]? = some (C, T, N) → (T k).1 = own) (hq : L[q0]? = some (ob D a ci fs)) (hn : narrow ty v = v) (hfit : fits ty v = true) (hl : k < fs.length) (hL : L.set q0 (ob D a ci (fs.set k v)) = L') (d : decode cc pc = .ok (.putfield index, 3))
    (kk : jw X cs sl L' lv (pc + 3) st) : jw X cs sl L lv pc (v :: .ref a :: st) := by
  intro h H locs ls h1 h2 h3 h4 h5
  obtain ⟨C, T, N, ty0, ⟨hc, hin, hty, hnm⟩, hk, hlink, hty1, hfin⟩ := hF
  obtain ⟨f, g, dj, he, ⟨cell, r, hf, hcr, q2, q3, q4⟩, mk⟩ := sg_pull L q0 _ h hq h1
  subst hf
  subst he
  have hr : r = (C, T, N) := Option.some.inj (hcr.symm.trans hc)
  subst hr
  have hcell : H[a]? = some cell := h2 a cell (sg_un_l (sg_1_at a cell))
  have hA : jx_A X a := h3 a cell (sg_un_l (sg_1_at a cell))
  have hap := va_apart (own := own) ok.2.2.2.2.1 hin ty0 hty hnm ok.2.2.2.2.2.2.2.1.1 hc
  obtain ⟨hS, hfc, kC, hkC, hkind⟩ := ok.2.2.2.2.2.2.2.1.1.1 ci _ hc
  obtain ⟨cf, kf, fi, fd, hi, hsl⟩ := hS k hk
  have hlay := ok.2.2.2.2.1 _ (hin _ (u_in_lay hk))
  unfold u_lay at hlay
  rw [if_pos hfin] at hlay
  have hst := (u_facts hfc hkC (u_lays ok.2.2.2.2.1 hin hk) hi).1
  have hcf : (jx_m X).cls = cf := by
    obtain ⟨_, _, c', _, _, _, -, -, hf', -, -, -, hown2, -⟩ := Cond.laysFinal_spec hlay
    have e1 : c' = cf := by have := hi.symm.trans hf'; simp at this; exact this.1.symm
    rw [hdecl C T N hc] at hown2
    rw [← e1]; exact Option.some.inj (ok.2.2.2.1.symm.trans hown2)
  have h6 := u_fits hfc hkC hkind (Or.inr hlay) hi (by rw [hty k hk, hty1]) hn hfit
  refine W.putFinK ok.1 ok.2.1 ok.2.2.2.1 (ok.2.2.2.2.1 _ hlink) hi hst hcf hin2 (by rw [q2]; exact h6) hcell q3 (by rw [hsl]; exact k2_hasslot (q4 k hk)) rfl rfl d fun H' e1 e2 e3 => ?_
  rw [hsl] at e1 ⊢
  have hnew := mk (ob D a ci (fs.set k v)) (sg_1 a (cell.setSlot (D.1.2 ci k) v)) ⟨_, _, rfl, hc, q2, q3, fun j hj => by rw [← vp_updV_set hl v j]; exact t_set q4 hap hk v j hj⟩ (sg_1_dj dj)
  rw [hL] at hnew
  refine kk _ H' _ ls hnew (sg_in_set dj h2 e1 e3) (fun q c hqc => ?_) (h4.put e2 e3 hA) h5
  rcases sg_un_some hqc with z | z
  · rw [(sg_1_some z).1]; exact hA
  · exact h3 q c (by rw [sg_un_comm dj]; exact sg_un_l z)
/-- an array's claim at a place of the list: its cell in the heap -/
theorem jr_cell {P : sg_A} {a : Nat} {cell : Cell} {h : sg_F} {H : Heap} {q0 : Nat} (hq : L[q0]? = some P) (hP : ∀ f, P f → f = sg_1 a cell) (h1 : sg_l L h) (h2 : sg_in h H) : H[a]? = some cell := by
  obtain ⟨f, g, dj, he, hp, mk⟩ := sg_pull L q0 _ h hq h1
  have := hP f hp
  subst this
  exact h2 a cell (by rw [he]; exact sg_un_l (sg_1_at a cell))
/-- a write into an array's claim -/
theorem jr_cellset {P P' : sg_A} {a : Nat} {cell cell' : Cell} {h : sg_F} {H H' : Heap} {locs : List Loc} {i q0 : Nat} {L' : List sg_A} (hq : L[q0]? = some P) (hP : ∀ f, P f → f = sg_1 a cell) (hP' : P' (sg_1 a cell')) (hL : L.set q0 P' = L') (h1 : sg_l L h) (h2 : sg_in h H) (h3 : ∀ (q : Nat) (c : Cell), h q = some c → jx_A X q) (h4 : va_S (jx_A X) (jx_s X).heap H locs)
    (e1 : H'[a]? = some cell') (e2 : H'.size = H.size) (e3 : ∀ q, q ≠ a → H'[q]? = H[q]?) : ∃ h', sg_l L' h' ∧ sg_in h' H' ∧ (∀ (q : Nat) (c : Cell), h' q = some c → jx_A X q) ∧ va_S (jx_A X) (jx_s X).heap H' (locs ++ [⟨a, i⟩]) := by
  obtain ⟨f, g, dj, he, hp, mk⟩ := sg_pull L q0 _ h hq h1
  have := hP f hp
  subst this
  subst he
  have hA : jx_A X a := h3 a cell (sg_un_l (sg_1_at a cell))
  have hnew := mk P' _ hP' (sg_1_dj dj)
  rw [hL] at hnew
  refine ⟨_, hnew, sg_in_set dj h2 e1 e3, fun q c hqc => ?_, h4.put e2 e3 hA⟩
  rcases sg_un_some hqc with z | z
  · rw [(sg_1_some z).1]; exact hA
  · exact h3 q c (by rw [sg_un_comm dj]; exact sg_un_l z)
theorem jr_alen_i {t a : Nat} {n : Int} {f : Int → Int} {ty : FieldType} (ok : jx_ok X D cc own ret) (q0 : Nat) (hq : L[q0]? = some (ai D t a n f)) (ht : (jk_tys D.2)[t]? = some (D.2 t, ty)) (d : decode cc pc = .ok (.arraylength, 1))
    (kk : jw X cs sl L lv (pc + 1) (.int (ii n) :: st)) : jw X cs sl L lv pc (.ref a :: st) := by
  intro h H locs ls h1 h2 h3 h4 h5
  have hn : 0 ≤ n := by
    obtain ⟨f, g, dj, he, hp, mk⟩ := sg_pull L q0 _ h hq h1
    exact hp.1
  have hcell := jr_cell hq (fun f hp => hp.2.2) h1 h2
  exact W.alen (n := ii n) ok.1 ok.2.1 hcell ((ok.2.2.2.2.2.2.2.1.1.2 t _ ht).1 _ _) (by rw [arrV_size]; exact ii_len hn) rfl rfl d (kk h H locs ls h1 h2 h3 h4 h5)
theorem jr_alen_l {t a : Nat} {n : Int} {f : Int → Int64} {ty : FieldType} (ok : jx_ok X D cc own ret) (q0 : Nat) (hq : L[q0]? = some (al D t a n f)) (ht : (jk_tys D.2)[t]? = some (D.2 t, ty)) (d : decode cc pc = .ok (.arraylength, 1))
    (kk : jw X cs sl L lv (pc + 1) (.int (ii n) :: st)) : jw X cs sl L lv pc (.ref a :: st) := by
  intro h H locs ls h1 h2 h3 h4 h5
  have hn : 0 ≤ n := by
    obtain ⟨f, g, dj, he, hp, mk⟩ := sg_pull L q0 _ h hq h1
    exact hp.1
  have hcell := jr_cell hq (fun f hp => hp.2.2) h1 h2
  exact W.alen (n := ii n) ok.1 ok.2.1 hcell ((ok.2.2.2.2.2.2.2.1.1.2 t _ ht).1 _ _) (by rw [arrV_size]; exact ii_len hn) rfl rfl d (kk h H locs ls h1 h2 h3 h4 h5)
theorem jr_alen_q {t a : Nat} {n : Int} {f : Int → Value} {ty : FieldType} (ok : jx_ok X D cc own ret) (q0 : Nat) (hq : L[q0]? = some (aq D t a n f)) (ht : (jk_tys D.2)[t]? = some (D.2 t, ty)) (d : decode cc pc = .ok (.arraylength, 1))
    (kk : jw X cs sl L lv (pc + 1) (.int (ii n) :: st)) : jw X cs sl L lv pc (.ref a :: st) := by
  intro h H locs ls h1 h2 h3 h4 h5
  have hn : 0 ≤ n := by
    obtain ⟨f, g, dj, he, hp, mk⟩ := sg_pull L q0 _ h hq h1
    exact hp.1
  have hcell := jr_cell hq (fun f hp => hp.2.2) h1 h2
  exact W.alen (n := ii n) ok.1 ok.2.1 hcell ((ok.2.2.2.2.2.2.2.1.1.2 t _ ht).1 _ _) (by rw [arrV_size]; exact ii_len hn) rfl rfl d (kk h H locs ls h1 h2 h3 h4 h5)
theorem jr_iald {t a : Nat} {n i : Int} {f : Int → Int} (ok : jx_ok X D cc own ret) (q0 : Nat) (hq : L[q0]? = some (ai D t a n f)) (ht : (jk_tys D.2)[t]? = some (D.2 t, .int)) (hi0 : 0 ≤ i) (hi1 : i < n) (d : decode cc pc = .ok (.iaload, 1))
    (kk : jw X cs sl L lv (pc + 1) (.int (ii (f i)) :: st)) : jw X cs sl L lv pc (.int (ii i) :: .ref a :: st) := by
  intro h H locs ls h1 h2 h3 h4 h5
  have hn : n ≤ 2147483647 := by
    obtain ⟨f, g, dj, he, hp, mk⟩ := sg_pull L q0 _ h hq h1
    exact hp.2.1
  have hcell := jr_cell hq (fun f hp => hp.2.2) h1 h2
  have hiR : iR i := ⟨by omega, by omega⟩
  refine W.iald (v := .int (ii (f i))) ok.1 ok.2.1 hcell ((ok.2.2.2.2.2.2.2.1.1.2 t _ ht).1 _ _) (fun q => by cases q) (by show ¬ (_ < 0 ∨ (arrV _ _ _).slots.size ≤ _); rw [arrV_size]; exact ii_in hi0 hi1 hn) ?_ rfl rfl d (kk h H locs ls h1 h2 h3 h4 h5)
  rw [ii_clamp hiR, arrV_read _ _ (by omega), Int.toNat_of_nonneg hi0]
theorem jr_bald {t a : Nat} {n i : Int} {f : Int → Int} (ok : jx_ok X D cc own ret) (q0 : Nat) (hq : L[q0]? = some (ai D t a n f)) (ht : (jk_tys D.2)[t]? = some (D.2 t, .byte)) (hi0 : 0 ≤ i) (hi1 : i < n) (d : decode cc pc = .ok (.baload, 1))
    (kk : jw X cs sl L lv (pc + 1) (.int (ii (f i)) :: st)) : jw X cs sl L lv pc (.int (ii i) :: .ref a :: st) := by
  intro h H locs ls h1 h2 h3 h4 h5
  have hn : n ≤ 2147483647 := by
    obtain ⟨f, g, dj, he, hp, mk⟩ := sg_pull L q0 _ h hq h1
    exact hp.2.1
  have hcell := jr_cell hq (fun f hp => hp.2.2) h1 h2
  have hiR : iR i := ⟨by omega, by omega⟩
  refine W.bald (v := .int (ii (f i))) ok.1 ok.2.1 hcell ((ok.2.2.2.2.2.2.2.1.1.2 t _ ht).1 _ _) (fun q => by cases q) (by show ¬ (_ < 0 ∨ (arrV _ _ _).slots.size ≤ _); rw [arrV_size]; exact ii_in hi0 hi1 hn) ?_ rfl rfl d (kk h H locs ls h1 h2 h3 h4 h5)
  rw [ii_clamp hiR, arrV_read _ _ (by omega), Int.toNat_of_nonneg hi0]
theorem jr_zald {t a : Nat} {n i : Int} {f : Int → Int} (ok : jx_ok X D cc own ret) (q0 : Nat) (hq : L[q0]? = some (ai D t a n f)) (ht : (jk_tys D.2)[t]? = some (D.2 t, .boolean)) (hi0 : 0 ≤ i) (hi1 : i < n) (d : decode cc pc = .ok (.baload, 1))
    (kk : jw X cs sl L lv (pc + 1) (.int (ii (f i)) :: st)) : jw X cs sl L lv pc (.int (ii i) :: .ref a :: st) := by
  intro h H locs ls h1 h2 h3 h4 h5
  have hn : n ≤ 2147483647 := by
    obtain ⟨f, g, dj, he, hp, mk⟩ := sg_pull L q0 _ h hq h1
    exact hp.2.1
  have hcell := jr_cell hq (fun f hp => hp.2.2) h1 h2
  have hiR : iR i := ⟨by omega, by omega⟩
  refine W.zald (v := .int (ii (f i))) ok.1 ok.2.1 hcell ((ok.2.2.2.2.2.2.2.1.1.2 t _ ht).1 _ _) (fun q => by cases q) (by show ¬ (_ < 0 ∨ (arrV _ _ _).slots.size ≤ _); rw [arrV_size]; exact ii_in hi0 hi1 hn) ?_ rfl rfl d (kk h H locs ls h1 h2 h3 h4 h5)
  rw [ii_clamp hiR, arrV_read _ _ (by omega), Int.toNat_of_nonneg hi0]
theorem jr_cald {t a : Nat} {n i : Int} {f : Int → Int} (ok : jx_ok X D cc own ret) (q0 : Nat) (hq : L[q0]? = some (ai D t a n f)) (ht : (jk_tys D.2)[t]? = some (D.2 t, .char)) (hi0 : 0 ≤ i) (hi1 : i < n) (d : decode cc pc = .ok (.caload, 1))
    (kk : jw X cs sl L lv (pc + 1) (.int (ii (f i)) :: st)) : jw X cs sl L lv pc (.int (ii i) :: .ref a :: st) := by
  intro h H locs ls h1 h2 h3 h4 h5
  have hn : n ≤ 2147483647 := by
    obtain ⟨f, g, dj, he, hp, mk⟩ := sg_pull L q0 _ h hq h1
    exact hp.2.1
  have hcell := jr_cell hq (fun f hp => hp.2.2) h1 h2
  have hiR : iR i := ⟨by omega, by omega⟩
  refine W.cald (v := .int (ii (f i))) ok.1 ok.2.1 hcell ((ok.2.2.2.2.2.2.2.1.1.2 t _ ht).1 _ _) (fun q => by cases q) (by show ¬ (_ < 0 ∨ (arrV _ _ _).slots.size ≤ _); rw [arrV_size]; exact ii_in hi0 hi1 hn) ?_ rfl rfl d (kk h H locs ls h1 h2 h3 h4 h5)
  rw [ii_clamp hiR, arrV_read _ _ (by omega), Int.toNat_of_nonneg hi0]
theorem jr_lald {t a : Nat} {n i : Int} {f : Int → Int64} (ok : jx_ok X D cc own ret) (q0 : Nat) (hq : L[q0]? = some (al D t a n f)) (ht : (jk_tys D.2)[t]? = some (D.2 t, .long)) (hi0 : 0 ≤ i) (hi1 : i < n) (d : decode cc pc = .ok (.laload, 1))
    (kk : jw X cs sl L lv (pc + 1) (.long (f i) :: st)) : jw X cs sl L lv pc (.int (ii i) :: .ref a :: st) := by
  intro h H locs ls h1 h2 h3 h4 h5
  have hn : n ≤ 2147483647 := by
    obtain ⟨f, g, dj, he, hp, mk⟩ := sg_pull L q0 _ h hq h1
    exact hp.2.1
  have hcell := jr_cell hq (fun f hp => hp.2.2) h1 h2
  have hiR : iR i := ⟨by omega, by omega⟩
  refine W.lald (v := .long (f i)) ok.1 ok.2.1 hcell ((ok.2.2.2.2.2.2.2.1.1.2 t _ ht).1 _ _) (fun q => by cases q) (by show ¬ (_ < 0 ∨ (arrV _ _ _).slots.size ≤ _); rw [arrV_size]; exact ii_in hi0 hi1 hn) ?_ rfl rfl d (kk h H locs ls h1 h2 h3 h4 h5)
  rw [ii_clamp hiR, arrV_read _ _ (by omega), Int.toNat_of_nonneg hi0]
theorem jr_iast {t a : Nat} {n i : Int} {f : Int → Int} {x : Int} (L' : List sg_A) (ok : jx_ok X D cc own ret) (q0 : Nat) (hq : L[q0]? = some (ai D t a n f)) (ht : (jk_tys D.2)[t]? = some (D.2 t, .int)) (hi0 : 0 ≤ i) (hi1 : i < n) (hL : L.set q0 (ai D t a n (fun j => if j = i then x else f j)) = L') (d : decode cc pc = .ok (.iastore, 1))
    (kk : jw X cs sl L' lv (pc + 1) st) : jw X cs sl L lv pc (.int (ii x) :: .int (ii i) :: .ref a :: st) := by
  intro h H locs ls h1 h2 h3 h4 h5
  have hn : n ≤ 2147483647 := by
    obtain ⟨f, g, dj, he, hp, mk⟩ := sg_pull L q0 _ h hq h1
    exact hp.2.1
  have hcell := jr_cell hq (fun f hp => hp.2.2) h1 h2
  have hiR : iR i := ⟨by omega, by omega⟩
  refine W.iast ok.1 ok.2.1 hcell ((ok.2.2.2.2.2.2.2.1.1.2 t _ ht).1 _ _) (fun q => by cases q) (by show ¬ (_ < 0 ∨ (arrV _ _ _).slots.size ≤ _); rw [arrV_size]; exact ii_in hi0 hi1 hn) rfl rfl d fun H' e1 e2 e3 => ?_
  rw [arrV_store] at e1
  obtain ⟨h', a1, a2, a3, a4⟩ := jr_cellset (X := X) (P' := ai D t a n (fun j => if j = i then x else f j)) hq (fun f hp => hp.2.2) ⟨by omega, hn, rfl⟩ hL h1 h2 h3 h4 (by
    rw [e1]
    congr 2
    funext j
    rw [ii_clamp hiR]
    simp only [updV]
    by_cases hj : j = i.toNat
    · rw [if_pos hj, if_pos (by omega)]
    · rw [if_neg hj, if_neg (by omega)]) e2 e3
  exact kk h' H' _ ls a1 a2 a3 a4 h5
theorem jr_bast {t a : Nat} {n i : Int} {f : Int → Int} {x : Int} (L' : List sg_A) (ok : jx_ok X D cc own ret) (q0 : Nat) (hq : L[q0]? = some (ai D t a n f)) (ht : (jk_tys D.2)[t]? = some (D.2 t, .byte)) (hi0 : 0 ≤ i) (hi1 : i < n) (hx : narrow .byte (.int (ii x)) = .int (ii x)) (hL : L.set q0 (ai D t a n (fun j => if j = i then x else f j)) = L') (d : decode cc pc = .ok (.bastore, 1))
    (kk : jw X cs sl L' lv (pc + 1) st) : jw X cs sl L lv pc (.int (ii x) :: .int (ii i) :: .ref a :: st) := by
  intro h H locs ls h1 h2 h3 h4 h5
  have hn : n ≤ 2147483647 := by
    obtain ⟨f, g, dj, he, hp, mk⟩ := sg_pull L q0 _ h hq h1
    exact hp.2.1
  have hcell := jr_cell hq (fun f hp => hp.2.2) h1 h2
  have hiR : iR i := ⟨by omega, by omega⟩
  refine W.bast ok.1 ok.2.1 hcell ((ok.2.2.2.2.2.2.2.1.1.2 t _ ht).1 _ _) (fun q => by cases q) (by show ¬ (_ < 0 ∨ (arrV _ _ _).slots.size ≤ _); rw [arrV_size]; exact ii_in hi0 hi1 hn) rfl rfl d fun H' e1 e2 e3 => ?_
  rw [hx] at e1
  rw [arrV_store] at e1
  obtain ⟨h', a1, a2, a3, a4⟩ := jr_cellset (X := X) (P' := ai D t a n (fun j => if j = i then x else f j)) hq (fun f hp => hp.2.2) ⟨by omega, hn, rfl⟩ hL h1 h2 h3 h4 (by
    rw [e1]
    congr 2
    funext j
    rw [ii_clamp hiR]
    simp only [updV]
    by_cases hj : j = i.toNat
    · rw [if_pos hj, if_pos (by omega)]
    · rw [if_neg hj, if_neg (by omega)]) e2 e3
  exact kk h' H' _ ls a1 a2 a3 a4 h5
theorem jr_zast {t a : Nat} {n i : Int} {f : Int → Int} {x : Int} (L' : List sg_A) (ok : jx_ok X D cc own ret) (q0 : Nat) (hq : L[q0]? = some (ai D t a n f)) (ht : (jk_tys D.2)[t]? = some (D.2 t, .boolean)) (hi0 : 0 ≤ i) (hi1 : i < n) (hx : narrow .boolean (.int (ii x)) = .int (ii x)) (hL : L.set q0 (ai D t a n (fun j => if j = i then x else f j)) = L') (d : decode cc pc = .ok (.bastore, 1))
    (kk : jw X cs sl L' lv (pc + 1) st) : jw X cs sl L lv pc (.int (ii x) :: .int (ii i) :: .ref a :: st) := by
  intro h H locs ls h1 h2 h3 h4 h5
  have hn : n ≤ 2147483647 := by
    obtain ⟨f, g, dj, he, hp, mk⟩ := sg_pull L q0 _ h hq h1
    exact hp.2.1
  have hcell := jr_cell hq (fun f hp => hp.2.2) h1 h2
  have hiR : iR i := ⟨by omega, by omega⟩
  refine W.zast ok.1 ok.2.1 hcell ((ok.2.2.2.2.2.2.2.1.1.2 t _ ht).1 _ _) (fun q => by cases q) (by show ¬ (_ < 0 ∨ (arrV _ _ _).slots.size ≤ _); rw [arrV_size]; exact ii_in hi0 hi1 hn) rfl rfl d fun H' e1 e2 e3 => ?_
  rw [hx] at e1
  rw [arrV_store] at e1
  obtain ⟨h', a1, a2, a3, a4⟩ := jr_cellset (X := X) (P' := ai D t a n (fun j => if j = i then x else f j)) hq (fun f hp => hp.2.2) ⟨by omega, hn, rfl⟩ hL h1 h2 h3 h4 (by
    rw [e1]
    congr 2
    funext j
    rw [ii_clamp hiR]
    simp only [updV]
    by_cases hj : j = i.toNat
    · rw [if_pos hj, if_pos (by omega)]
    · rw [if_neg hj, if_neg (by omega)]) e2 e3
  exact kk h' H' _ ls a1 a2 a3 a4 h5
theorem jr_last {t a : Nat} {n i : Int} {f : Int → Int64} {x : Int64} (L' : List sg_A) (ok : jx_ok X D cc own ret) (q0 : Nat) (hq : L[q0]? = some (al D t a n f)) (ht : (jk_tys D.2)[t]? = some (D.2 t, .long)) (hi0 : 0 ≤ i) (hi1 : i < n) (hL : L.set q0 (al D t a n (fun j => if j = i then x else f j)) = L') (d : decode cc pc = .ok (.lastore, 1))
    (kk : jw X cs sl L' lv (pc + 1) st) : jw X cs sl L lv pc (.long (x) :: .int (ii i) :: .ref a :: st) := by
  intro h H locs ls h1 h2 h3 h4 h5
  have hn : n ≤ 2147483647 := by
    obtain ⟨f, g, dj, he, hp, mk⟩ := sg_pull L q0 _ h hq h1
    exact hp.2.1
  have hcell := jr_cell hq (fun f hp => hp.2.2) h1 h2
  have hiR : iR i := ⟨by omega, by omega⟩
  refine W.last ok.1 ok.2.1 hcell ((ok.2.2.2.2.2.2.2.1.1.2 t _ ht).1 _ _) (fun q => by cases q) (by show ¬ (_ < 0 ∨ (arrV _ _ _).slots.size ≤ _); rw [arrV_size]; exact ii_in hi0 hi1 hn) rfl rfl d fun H' e1 e2 e3 => ?_
  rw [arrV_store] at e1
  obtain ⟨h', a1, a2, a3, a4⟩ := jr_cellset (X := X) (P' := al D t a n (fun j => if j = i then x else f j)) hq (fun f hp => hp.2.2) ⟨by omega, hn, rfl⟩ hL h1 h2 h3 h4 (by
    rw [e1]
    congr 2
    funext j
    rw [ii_clamp hiR]
    simp only [updV]
    by_cases hj : j = i.toNat
    · rw [if_pos hj, if_pos (by omega)]
    · rw [if_neg hj, if_neg (by omega)]) e2 e3
  exact kk h' H' _ ls a1 a2 a3 a4 h5
theorem jr_aald {t a : Nat} {n i : Int} {f : Int → Value} {ty : FieldType} (ok : jx_ok X D cc own ret) (q0 : Nat) (hq : L[q0]? = some (aq D t a n f)) (ht : (jk_tys D.2)[t]? = some (D.2 t, ty)) (hty : ty.isReference = true) (hi0 : 0 ≤ i) (hi1 : i < n) (d : decode cc pc = .ok (.aaload, 1))
    (kk : jw X cs sl L lv (pc + 1) (f i :: st)) : jw X cs sl L lv pc (.int (ii i) :: .ref a :: st) := by
  intro h H locs ls h1 h2 h3 h4 h5
  have hn : n ≤ 2147483647 := by
    obtain ⟨f, g, dj, he, hp, mk⟩ := sg_pull L q0 _ h hq h1
    exact hp.2.1
  have hcell := jr_cell hq (fun f hp => hp.2.2) h1 h2
  have hiR : iR i := ⟨by omega, by omega⟩
  refine W.aald (v := f i) ok.1 ok.2.1 hcell ((ok.2.2.2.2.2.2.2.1.1.2 t _ ht).1 _ _) hty (fun q => by cases q) (by show ¬ (_ < 0 ∨ (arrV _ _ _).slots.size ≤ _); rw [arrV_size]; exact ii_in hi0 hi1 hn) ?_ rfl rfl d (kk h H locs ls h1 h2 h3 h4 h5)
  rw [ii_clamp hiR, arrV_read _ _ (by omega), Int.toNat_of_nonneg hi0]
/-- a new object at the end of the list -/
theorem jr_new {ci index N : Nat} {C : String} {T : u_T} {ty : Nat → FieldType} {fs : List Value} (ok : jx_ok X D cc own ret) (hC : jt_C ci C T N ty) (hcl : Cond.classLink own index C ∈ jw_all) (hinst : Cond.instantiable C N ∈ jw_all) (hini : Cond.initialized C ∈ jw_all) (hfs : ∀ j, j < N → defaultValue (ty j) = vp_V fs j) (hcells : cs + 1 ≤ (jx_R X).cells) (hslots : sl + N ≤ (jx_R X).slots) (d : decode cc pc = .ok (.new index, 3))
    (kk : ∀ q : Nat, jw X (cs + 1) (sl + N) (L ++ [ob D q ci fs]) lv (pc + 3) (.ref q :: st)) : jw X cs sl L lv pc st := by
  intro h H locs ls h1 h2 h3 h4 h5
  obtain ⟨hc, hin, hty, hnm⟩ := hC
  have hKn := ok.2.2.2.2.2.2.2.1.1.1 ci _ hc
  refine W.newcK ok.1 ok.2.1 ok.2.2.2.1 (ok.2.2.2.2.1 _ hcl) (ok.2.2.2.2.1 _ hinst) (ok.2.2.2.2.1 _ hini) rfl d hcells hslots hKn.2.1 rfl fun H1 kC hkC e1 z1 o1 => ?_
  have hb := u_born ty ok.2.2.2.2.1 hin hKn hkC e1 hty
  obtain ⟨cell, b1, b2, b3, b4⟩ := hb.to hfs
  refine kk H.size _ H1 locs ls (sg_push L _ h (sg_1 H.size cell) h1 ⟨cell, _, rfl, hc, b2, b3, b4⟩ (sg_dj_new h2 cell)) (sg_in_new h2 b1 o1) (fun q c hq => ?_) ⟨Nat.le_trans h4.1 (by omega), fun x g1 g2 => (o1 x (Nat.lt_of_lt_of_le g1 h4.1)).trans (h4.2.1 x g1 g2), h4.2.2⟩ h5
  rcases sg_un_some hq with z | z
  · exact h3 q c z
  · rw [(sg_1_some z).1]; exact ok.2.2.2.2.2.2.2.2 _ h4.1
/-- the array class of a type is one -/
theorem jr_arrcls {U : State} {cA cB : ClassId} {ty : FieldType} (h1 : va_RA U cA ty) (h2 : U.vm.findClass ("[" ++ ty.toString) = some cB) : cA = cB := by
  cases ty with
  | object C =>
    obtain ⟨kA, comp, -, -, -, h⟩ := h1
    exact Option.some.inj (h.symm.trans h2)
  | _ => exact Option.some.inj (Eq.symm (h2.symm.trans h1)) |>.symm ▸ rfl
end JH
