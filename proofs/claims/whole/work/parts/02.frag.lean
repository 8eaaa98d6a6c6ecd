/-! ===== fragments of a heap, and what is said of them: a separating list of claims ===== -/
abbrev sg_F : Type := Nat → Option Cell
abbrev sg_A : Type := sg_F → Prop
def sg_0 : sg_F := fun _ => none
def sg_1 (a : Nat) (c : Cell) : sg_F := fun p => if p = a then some c else none
def sg_un (f g : sg_F) : sg_F := fun q => match f q with
  | some c => some c
  | none => g q
def sg_dj (f g : sg_F) : Prop := ∀ q : Nat, f q = none ∨ g q = none
def sg_in (h : sg_F) (H : Heap) : Prop := ∀ (q : Nat) (c : Cell), h q = some c → H[q]? = some c
def sg_s (P Q : sg_A) : sg_A := fun h => ∃ f g : sg_F, sg_dj f g ∧ h = sg_un f g ∧ P f ∧ Q g
def sg_e : sg_A := fun h => h = sg_0
def sg_l : List sg_A → sg_A
  | [] => sg_e
  | P :: L => sg_s P (sg_l L)
theorem sg_un_0 (f : sg_F) : sg_un f sg_0 = f := by
  funext q
  simp only [sg_un, sg_0]
  cases f q <;> rfl
theorem sg_0_un (f : sg_F) : sg_un sg_0 f = f := rfl
theorem sg_un_l {f g : sg_F} {q : Nat} {c : Cell} (h : f q = some c) : sg_un f g q = some c := by
  simp only [sg_un, h]
theorem sg_un_r {f g : sg_F} {q : Nat} (h : f q = none) : sg_un f g q = g q := by
  simp only [sg_un, h]
theorem sg_un_none {f g : sg_F} {q : Nat} : sg_un f g q = none ↔ f q = none ∧ g q = none := by
  simp only [sg_un]
  cases f q with
  | none => simp
  | some c => simp
theorem sg_un_some {f g : sg_F} {q : Nat} {c : Cell} (h : sg_un f g q = some c) : f q = some c ∨ g q = some c := by
  simp only [sg_un] at h
  cases hf : f q with
  | none => rw [hf] at h; exact Or.inr h
  | some d => rw [hf] at h; exact Or.inl h
theorem sg_dj.symm {f g : sg_F} (h : sg_dj f g) : sg_dj g f := fun q => (h q).symm
theorem sg_dj_0 (f : sg_F) : sg_dj f sg_0 := fun _ => Or.inr rfl
theorem sg_0_dj (f : sg_F) : sg_dj sg_0 f := fun _ => Or.inl rfl
theorem sg_un_comm {f g : sg_F} (h : sg_dj f g) : sg_un f g = sg_un g f := by
  funext q
  rcases h q with e | e
  · rw [sg_un_r e]
    cases hg : g q with
    | none => exact (sg_un_none.mpr ⟨hg, e⟩).symm
    | some c => exact (sg_un_l hg).symm
  · rw [sg_un_r e]
    cases hf : f q with
    | none => exact sg_un_none.mpr ⟨hf, e⟩
    | some c => exact sg_un_l hf
theorem sg_un_assoc (f g k : sg_F) : sg_un (sg_un f g) k = sg_un f (sg_un g k) := by
  funext q
  simp only [sg_un]
  cases f q <;> rfl
theorem sg_dj_un {f g k : sg_F} : sg_dj f (sg_un g k) ↔ sg_dj f g ∧ sg_dj f k := by
  constructor
  · intro h
    refine ⟨fun q => ?_, fun q => ?_⟩
    · rcases h q with e | e
      · exact Or.inl e
      · exact Or.inr (sg_un_none.mp e).1
    · rcases h q with e | e
      · exact Or.inl e
      · exact Or.inr (sg_un_none.mp e).2
  · intro h q
    rcases h.1 q with e | e
    · exact Or.inl e
    · rcases h.2 q with e2 | e2
      · exact Or.inl e2
      · exact Or.inr (sg_un_none.mpr ⟨e, e2⟩)
theorem sg_un_dj {f g k : sg_F} : sg_dj (sg_un g k) f ↔ sg_dj g f ∧ sg_dj k f := by
  constructor
  · intro h
    have := sg_dj_un.mp h.symm
    exact ⟨this.1.symm, this.2.symm⟩
  · intro h
    exact (sg_dj_un.mpr ⟨h.1.symm, h.2.symm⟩).symm
theorem sg_in_un {f g : sg_F} {H : Heap} (h : sg_dj f g) : sg_in (sg_un f g) H ↔ sg_in f H ∧ sg_in g H := by
  constructor
  · intro k
    refine ⟨fun q c e => k q c (sg_un_l e), fun q c e => k q c ?_⟩
    rcases h q with z | z
    · rw [sg_un_r z]; exact e
    · rw [e] at z; cases z
  · intro k q c e
    rcases sg_un_some e with z | z
    · exact k.1 q c z
    · exact k.2 q c z
theorem sg_s_comm {P Q : sg_A} {h : sg_F} (k : sg_s P Q h) : sg_s Q P h := by
  obtain ⟨f, g, d, e, p, q⟩ := k
  exact ⟨g, f, d.symm, by rw [e]; exact sg_un_comm d, q, p⟩
theorem sg_s_assoc {P Q R : sg_A} {h : sg_F} (k : sg_s (sg_s P Q) R h) : sg_s P (sg_s Q R) h := by
  obtain ⟨f, g, d, e, ⟨f1, f2, d1, e1, p, q⟩, r⟩ := k
  subst e1
  have d2 := sg_un_dj.mp d
  exact ⟨f1, sg_un f2 g, sg_dj_un.mpr ⟨d1, d2.1⟩, by rw [e]; exact sg_un_assoc _ _ _, p, f2, g, d2.2, rfl, q, r⟩
theorem sg_s_assoc' {P Q R : sg_A} {h : sg_F} (k : sg_s P (sg_s Q R) h) : sg_s (sg_s P Q) R h := by
  obtain ⟨f, g, d, e, p, f1, f2, d1, e1, q, r⟩ := k
  subst e1
  have d2 := sg_dj_un.mp d
  exact ⟨sg_un f f1, f2, sg_un_dj.mpr ⟨d2.2, d1⟩, by rw [e]; exact (sg_un_assoc _ _ _).symm, ⟨f, f1, d2.1, rfl, p, q⟩, r⟩
theorem sg_s_mono {P Q P' Q' : sg_A} {h : sg_F} (k : sg_s P Q h) (a : ∀ f, P f → P' f) (b : ∀ f, Q f → Q' f) : sg_s P' Q' h := by
  obtain ⟨f, g, d, e, p, q⟩ := k
  exact ⟨f, g, d, e, a f p, b g q⟩
theorem sg_s_e {P : sg_A} {h : sg_F} : sg_s P sg_e h ↔ P h := by
  constructor
  · rintro ⟨f, g, d, e, p, q⟩
    have q : g = sg_0 := q
    subst q
    rw [e, sg_un_0]
    exact p
  · intro p
    exact ⟨h, sg_0, sg_dj_0 h, (sg_un_0 h).symm, p, rfl⟩
theorem sg_e_s {P : sg_A} {h : sg_F} : sg_s sg_e P h ↔ P h := ⟨fun k => sg_s_e.mp (sg_s_comm k), fun p => sg_s_comm (sg_s_e.mpr p)⟩
theorem sg_l_app : ∀ (A B : List sg_A) (h : sg_F), sg_l (A ++ B) h ↔ sg_s (sg_l A) (sg_l B) h
  | [], B, h => sg_e_s.symm
  | P :: A, B, h => by
    constructor
    · intro k
      exact sg_s_assoc' (sg_s_mono (P' := P) (Q' := sg_s (sg_l A) (sg_l B)) k (fun _ p => p) (fun f p => (sg_l_app A B f).mp p))
    · intro k
      exact sg_s_mono (P' := P) (Q' := sg_l (A ++ B)) (sg_s_assoc k) (fun _ p => p) (fun f p => (sg_l_app A B f).mpr p)
theorem sg_l_perm {A B : List sg_A} (p : A.Perm B) : ∀ h : sg_F, sg_l A h → sg_l B h := by
  induction p with
  | nil => exact fun _ k => k
  | cons x _ ih => exact fun h k => sg_s_mono k (fun _ z => z) (fun f z => ih f z)
  | swap x y l => exact fun h k => sg_s_assoc (sg_s_mono (P' := sg_s x y) (Q' := sg_l l) (sg_s_assoc' k) (fun f z => sg_s_comm z) (fun _ z => z))
  | trans _ _ ih1 ih2 => exact fun h k => ih2 h (ih1 h k)
/-- the claims at these places -/
def sg_sel (L : List sg_A) (ks : List Nat) : List sg_A := ks.map (fun k => L.getD k sg_e)
theorem sg_sel_all : ∀ L : List sg_A, sg_sel L (List.range L.length) = L := by
  intro L
  refine List.ext_getElem? (fun i => ?_)
  simp only [sg_sel, List.getElem?_map]
  by_cases hi : i < L.length
  · rw [List.getElem?_range hi]
    simp [List.getD, hi]
  · rw [List.getElem?_eq_none (by simpa using Nat.not_lt.mp hi), List.getElem?_eq_none (Nat.not_lt.mp hi)]
    rfl
theorem sg_pick {L L' : List sg_A} (ks : List Nat) (hp : ks.Perm (List.range L.length)) (he : sg_sel L ks = L') (h : sg_F) (k : sg_l L h) : sg_l L' h := by
  subst he
  refine sg_l_perm (A := L) ?_ h k
  have := (hp.map (fun k => L.getD k sg_e)).symm
  rw [show (List.range L.length).map (fun k => L.getD k sg_e) = L from sg_sel_all L] at this
  exact this
/-- one claim of the list, and how another takes its place -/
theorem sg_pull : ∀ (L : List sg_A) (k : Nat) (P : sg_A) (h : sg_F), L[k]? = some P → sg_l L h →
    ∃ f g : sg_F, sg_dj f g ∧ h = sg_un f g ∧ P f ∧ ∀ (P' : sg_A) (f' : sg_F), P' f' → sg_dj f' g → sg_l (L.set k P') (sg_un f' g)
  | [], k, P, h, hk, _ => by simp at hk
  | A :: L, 0, P, h, hk, hl => by
    have e : A = P := by simpa using hk
    subst e
    obtain ⟨f, g, d, e, p, q⟩ := hl
    exact ⟨f, g, d, e, p, fun P' f' p' d' => ⟨f', g, d', rfl, p', q⟩⟩
  | A :: L, k + 1, P, h, hk, hl => by
    obtain ⟨f, g, d, e, p, q⟩ := hl
    obtain ⟨f1, g1, d1, e1, p1, m1⟩ := sg_pull L k P g (by simpa using hk) q
    subst e1
    have d2 := sg_dj_un.mp d
    refine ⟨f1, sg_un f g1, sg_dj_un.mpr ⟨d2.1.symm, d1⟩, ?_, p1, ?_⟩
    · rw [e, ← sg_un_assoc, sg_un_comm d2.1, sg_un_assoc]
    · intro P' f' p' d'
      have d3 := sg_dj_un.mp d'
      refine ⟨f, sg_un f' g1, sg_dj_un.mpr ⟨d3.1.symm, d2.2⟩, ?_, p, m1 P' f' p' d3.2⟩
      rw [← sg_un_assoc, sg_un_comm d3.1, sg_un_assoc]
/-- a claim more, at the end -/
theorem sg_push (L : List sg_A) (P : sg_A) (h f : sg_F) (k : sg_l L h) (p : P f) (d : sg_dj h f) : sg_l (L ++ [P]) (sg_un h f) :=
  (sg_l_app L [P] _).mpr ⟨h, f, d, rfl, k, sg_s_e.mpr p⟩
theorem sg_1_at (a : Nat) (c : Cell) : sg_1 a c a = some c := by simp [sg_1]
theorem sg_1_ne {a q : Nat} (c : Cell) (h : q ≠ a) : sg_1 a c q = none := by simp [sg_1, h]
theorem sg_1_some {a q : Nat} {c d : Cell} (h : sg_1 a c q = some d) : q = a ∧ d = c := by
  by_cases e : q = a
  · subst e
    rw [sg_1_at] at h
    exact ⟨rfl, (Option.some.inj h).symm⟩
  · rw [sg_1_ne c e] at h
    cases h
/-- the same place, another cell: still apart -/
theorem sg_1_dj {a : Nat} {c c' : Cell} {g : sg_F} (h : sg_dj (sg_1 a c) g) : sg_dj (sg_1 a c') g := by
  intro q
  by_cases e : q = a
  · subst e
    rcases h q with z | z
    · rw [sg_1_at] at z; cases z
    · exact Or.inr z
  · exact Or.inl (sg_1_ne c' e)
/-- a write at one place -/
theorem sg_in_set {a : Nat} {c c' : Cell} {g : sg_F} {H H' : Heap} (d : sg_dj (sg_1 a c) g) (hi : sg_in (sg_un (sg_1 a c) g) H) (ha : H'[a]? = some c') (ho : ∀ q : Nat, q ≠ a → H'[q]? = H[q]?) : sg_in (sg_un (sg_1 a c') g) H' := by
  refine (sg_in_un (sg_1_dj d)).mpr ⟨fun q x e => ?_, fun q x e => ?_⟩
  · obtain ⟨e1, e2⟩ := sg_1_some e
    rw [e1, e2]; exact ha
  · have hq : q ≠ a := by
      intro z
      subst z
      rcases d q with w | w
      · rw [sg_1_at] at w; cases w
      · rw [e] at w; cases w
    rw [ho q hq]
    exact ((sg_in_un d).mp hi).2 q x e
theorem sg_in_lt {h : sg_F} {H : Heap} (hi : sg_in h H) {q : Nat} {c : Cell} (e : h q = some c) : q < H.size := (Array.getElem?_eq_some_iff.mp (hi q c e)).1
/-- a new cell -/
theorem sg_dj_new {h : sg_F} {H : Heap} (hi : sg_in h H) (c : Cell) : sg_dj h (sg_1 H.size c) := by
  intro q
  by_cases e : q = H.size
  · left
    cases hq : h q with
    | none => rfl
    | some x =>
      have := sg_in_lt hi hq
      omega
  · exact Or.inr (sg_1_ne c e)
theorem sg_in_new {h : sg_F} {H H' : Heap} {c : Cell} (hi : sg_in h H) (ha : H'[H.size]? = some c) (ho : ∀ q : Nat, q < H.size → H'[q]? = H[q]?) : sg_in (sg_un h (sg_1 H.size c)) H' := by
  refine (sg_in_un (sg_dj_new hi c)).mpr ⟨fun q x e => ?_, fun q x e => ?_⟩
  · rw [ho q (sg_in_lt hi e)]; exact hi q x e
  · obtain ⟨e1, e2⟩ := sg_1_some e
    rw [e1, e2]; exact ha
/-- pure claims and claims of something -/
def sg_p (φ : Prop) : sg_A := fun h => φ ∧ h = sg_0
def sg_x {α : Type} (P : α → sg_A) : sg_A := fun h => ∃ x, P x h
theorem sg_p_intro {φ : Prop} {L : List sg_A} {h : sg_F} (p : φ) (k : sg_l L h) : sg_l (sg_p φ :: L) h := ⟨sg_0, h, sg_0_dj h, rfl, ⟨p, rfl⟩, k⟩
theorem sg_p_elim {φ : Prop} {L : List sg_A} {h : sg_F} (k : sg_l (sg_p φ :: L) h) : φ ∧ sg_l L h := by
  obtain ⟨f, g, d, e, ⟨p, z⟩, q⟩ := k
  subst z
  exact ⟨p, by rw [e]; exact q⟩
theorem sg_x_intro {α : Type} {P : α → sg_A} {L : List sg_A} {h : sg_F} (x : α) (k : sg_l (P x :: L) h) : sg_l (sg_x P :: L) h := by
  obtain ⟨f, g, d, e, p, q⟩ := k
  exact ⟨f, g, d, e, ⟨x, p⟩, q⟩
theorem sg_x_elim {α : Type} {P : α → sg_A} {L : List sg_A} {h : sg_F} (k : sg_l (sg_x P :: L) h) : ∃ x, sg_l (P x :: L) h := by
  obtain ⟨f, g, d, e, ⟨x, p⟩, q⟩ := k
  exact ⟨x, f, g, d, e, p, q⟩
/-- a claim that is a list of claims, opened and closed -/
theorem sg_open {A L : List sg_A} {h : sg_F} (k : sg_l (sg_l A :: L) h) : sg_l (A ++ L) h := (sg_l_app A L h).mpr k
theorem sg_close {A L : List sg_A} {h : sg_F} (k : sg_l (A ++ L) h) : sg_l (sg_l A :: L) h := (sg_l_app A L h).mp k
theorem sg_mono1 {P P' : sg_A} {L : List sg_A} {h : sg_F} (k : sg_l (P :: L) h) (a : ∀ f, P f → P' f) : sg_l (P' :: L) h := sg_s_mono k a (fun _ z => z)
/-- any number of claims of a kind, in a row -/
def sg_big (P : Nat → sg_A) : Nat → sg_A
  | 0 => sg_e
  | n + 1 => sg_s (sg_big P n) (P n)
theorem sg_big_congr {P P' : Nat → sg_A} : ∀ (n : Nat), (∀ i, i < n → P i = P' i) → sg_big P n = sg_big P' n
  | 0, _ => rfl
  | n + 1, h => by rw [sg_big, sg_big, sg_big_congr n (fun i hi => h i (by omega)), h n (by omega)]
/-- one of them, and how another takes its place -/
theorem sg_big_pull (P : Nat → sg_A) : ∀ (n i : Nat), i < n → ∀ h, sg_big P n h → ∃ f g : sg_F, sg_dj f g ∧ h = sg_un f g ∧ P i f ∧ ∀ (Q : sg_A) (f' : sg_F), Q f' → sg_dj f' g → sg_big (fun j => if j = i then Q else P j) n (sg_un f' g)
  | 0, i, hi, h, _ => absurd hi (Nat.not_lt_zero i)
  | n + 1, i, hi, h, ⟨f, g, d, e, p, q⟩ => by
    by_cases hin : i = n
    · subst hin
      refine ⟨g, f, d.symm, by rw [e]; exact sg_un_comm d, q, fun Q f' hq d' => ⟨f, f', d'.symm, sg_un_comm d', ?_, by simpa using hq⟩⟩
      rw [sg_big_congr (P' := P) i (fun j hj => if_neg (by omega))]
      exact p
    · obtain ⟨f1, g1, d1, e1, p1, m1⟩ := sg_big_pull P n i (by omega) f p
      subst e1
      have d2 := sg_un_dj.mp d
      refine ⟨f1, sg_un g1 g, sg_dj_un.mpr ⟨d1, d2.1⟩, by rw [e]; exact sg_un_assoc _ _ _, p1, fun Q f' hq d' => ?_⟩
      have d3 := sg_dj_un.mp d'
      refine ⟨sg_un f' g1, g, sg_un_dj.mpr ⟨d3.2, d2.2⟩, (sg_un_assoc _ _ _).symm, m1 Q f' hq d3.1, ?_⟩
      show (if n = i then Q else P n) g
      rw [if_neg (fun z : n = i => hin z.symm)]
      exact q
