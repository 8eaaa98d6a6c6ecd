
def lawW (X : jx_T) (D : jd_T) (b n : Nat) (xs : Nat → Int32) : Prop := jx_ok X D code "WindowTablesLaw" (some .boolean) ∧ jI D (jx_A X) (jx_s X) (jx_s X).heap ∧ jT D (jx_A X) (jx_s X) (jx_s X).heap ∧ jN D (jx_s X) ∧ jl_nt (jx_l X) ∧ jx_R X = { frames := 2048, cells := 601024, slots := 7293034, locals := 84000 } ∧ jx_n X = 8 ∧ va_X b n xs (jx_s X) (jx_s X).heap ∧ b < (jx_s X).heap.size ∧ ¬ jx_A X b ∧ n ≤ 3072
theorem xs_R (x : Int32) : iR x.toInt := ii_R x
/-- two ints, as one long -/
abbrev lx (hi lo : Int) : Int64 := (ll (w32 hi) <<< ((ii 32).toInt64 &&& 63)) ||| (ll (w32 lo) &&& ll 4294967295)
def st_feed (I : Nat → CW → WS → MS → Prop) : Prop := ∀ (k : Nat) (c : CW) (S : WS) (M : MS) (a1 : Int) (a2 : Int) (a3 : Int) (a4 : Int) (a5 : Int), k < 512 → I k c S M → iR a1 → iR a2 → iR a3 → iR a4 → iR a5 → ∃ (t : Int) (r : Int) (c9 : CW) (S9 : WS) (r' : Int) (M1 : MS) (t' : Int) (M2 : MS), s_WT_feed c S a1 a2 a3 a4 a5 = some ((t, r), c9, S9) ∧ s_Mo_feed M a1 a2 a3 a4 a5 = some (r', M1) ∧ s_Mo_thrown M1 = some (t', M2) ∧ ((t = 0 ∧ w32 t' = 0 ∧ w32 r = w32 r') ∨ (t = 1 ∧ w32 t' = 1)) ∧ I (k + 1) c9 S9 M2
def st_end (I : Nat → CW → WS → MS → Prop) : Prop := ∀ (k : Nat) (c : CW) (S : WS) (M : MS) (a1 : Int), k < 512 → I k c S M → iR a1 → ∃ (t : Int) (r : Unit) (c9 : CW) (S9 : WS) (r' : Unit) (M1 : MS) (t' : Int) (M2 : MS), s_WT_end c S a1 = some ((t, r), c9, S9) ∧ s_Mo_end M a1 = some (r', M1) ∧ s_Mo_thrown M1 = some (t', M2) ∧ ((t = 0 ∧ w32 t' = 0 ∧ True) ∨ (t = 2 ∧ w32 t' = 1)) ∧ I (k + 1) c9 S9 M2
def st_series (I : Nat → CW → WS → MS → Prop) : Prop := ∀ (k : Nat) (c : CW) (S : WS) (M : MS), k < 512 → I k c S M → ∃ (t : Int) (r : Int) (c9 : CW) (S9 : WS) (r' : Int) (M1 : MS) (t' : Int) (M2 : MS), s_WT_series c S = some ((t, r), c9, S9) ∧ s_Mo_series M = some (r', M1) ∧ s_Mo_thrown M1 = some (t', M2) ∧ ((t = 0 ∧ w32 t' = 0 ∧ w32 r = w32 r') ∨ (t = 1 ∧ w32 t' = 1)) ∧ I (k + 1) c9 S9 M2
def st_fault (I : Nat → CW → WS → MS → Prop) : Prop := ∀ (k : Nat) (c : CW) (S : WS) (M : MS) (a1 : Int), k < 512 → I k c S M → iR a1 → ∃ (t : Int) (r : Int) (c9 : CW) (S9 : WS) (r' : Int) (M1 : MS) (t' : Int) (M2 : MS), s_WT_fault c S a1 = some ((t, r), c9, S9) ∧ s_Mo_fault M a1 = some (r', M1) ∧ s_Mo_thrown M1 = some (t', M2) ∧ ((t = 0 ∧ w32 t' = 0 ∧ w32 r = w32 r') ∨ (t = 3 ∧ w32 t' = 1)) ∧ I (k + 1) c9 S9 M2
def st_letter (I : Nat → CW → WS → MS → Prop) : Prop := ∀ (k : Nat) (c : CW) (S : WS) (M : MS) (a1 : Int) (a2 : Int), k < 512 → I k c S M → iR a1 → iR a2 → ∃ (t : Int) (r : Int) (c9 : CW) (S9 : WS) (r' : Int) (M1 : MS) (t' : Int) (M2 : MS), s_WT_letter c S a1 a2 = some ((t, r), c9, S9) ∧ s_Mo_letter M a1 a2 = some (r', M1) ∧ s_Mo_thrown M1 = some (t', M2) ∧ ((t = 0 ∧ w32 t' = 0 ∧ w32 r = w32 r') ∨ (t = 3 ∧ w32 t' = 1)) ∧ I (k + 1) c9 S9 M2
def st_append (I : Nat → CW → WS → MS → Prop) : Prop := ∀ (k : Nat) (c : CW) (S : WS) (M : MS) (a1 : Int) (a2 : Int64) (a3 : Int64), k < 512 → I k c S M → iR a1 → ∃ (t : Int) (r : Int) (c9 : CW) (S9 : WS) (r' : Int) (M1 : MS) (t' : Int) (M2 : MS), s_WT_append c S a1 a2 a3 = some ((t, r), c9, S9) ∧ s_Mo_append M a1 a2 a3 = some (r', M1) ∧ s_Mo_thrown M1 = some (t', M2) ∧ ((t = 0 ∧ w32 t' = 0 ∧ w32 r = w32 r') ∨ (t = 3 ∧ w32 t' = 1) ∨ (t = 2 ∧ w32 t' = 2) ∨ (t = 1 ∧ w32 t' = 3)) ∧ I (k + 1) c9 S9 M2
def st_bulk (I : Nat → CW → WS → MS → Prop) : Prop := ∀ (k : Nat) (c : CW) (S : WS) (M : MS) (a1 : Int), k < 512 → I k c S M → iR a1 → ∃ (t : Int) (r : Int) (c9 : CW) (S9 : WS) (r' : Int) (M1 : MS) (t' : Int) (M2 : MS), s_WT_bulk c S a1 = some ((t, r), c9, S9) ∧ s_Mo_bulk M a1 = some (r', M1) ∧ s_Mo_thrown M1 = some (t', M2) ∧ ((t = 0 ∧ w32 t' = 0 ∧ w32 r = w32 r') ∨ (t = 3 ∧ w32 t' = 1)) ∧ I (k + 1) c9 S9 M2
def st_delete (I : Nat → CW → WS → MS → Prop) : Prop := ∀ (k : Nat) (c : CW) (S : WS) (M : MS) (a1 : Int) (a2 : Int64) (a3 : Int64), k < 512 → I k c S M → iR a1 → ∃ (t : Int) (r : Int) (c9 : CW) (S9 : WS) (r' : Int) (M1 : MS) (t' : Int) (M2 : MS), s_WT_delete c S a1 a2 a3 = some ((t, r), c9, S9) ∧ s_Mo_delete M a1 a2 a3 = some (r', M1) ∧ s_Mo_thrown M1 = some (t', M2) ∧ ((t = 0 ∧ w32 t' = 0 ∧ w32 r = w32 r') ∨ (t = 3 ∧ w32 t' = 1) ∨ (t = 2 ∧ w32 t' = 2) ∨ (t = 1 ∧ w32 t' = 3)) ∧ I (k + 1) c9 S9 M2
def st_retain (I : Nat → CW → WS → MS → Prop) : Prop := ∀ (k : Nat) (c : CW) (S : WS) (M : MS) (a1 : Int64), k < 512 → I k c S M → ∃ (t : Int) (r : Int) (c9 : CW) (S9 : WS) (r' : Int) (M1 : MS) (t' : Int) (M2 : MS), s_WT_retain c S a1 = some ((t, r), c9, S9) ∧ s_Mo_retain M a1 = some (r', M1) ∧ s_Mo_thrown M1 = some (t', M2) ∧ ((t = 0 ∧ w32 t' = 0 ∧ w32 r = w32 r') ∨ (t = 2 ∧ w32 t' = 1)) ∧ I (k + 1) c9 S9 M2
def st_ask (I : Nat → CW → WS → MS → Prop) : Prop := ∀ (k : Nat) (c : CW) (S : WS) (M : MS) (a1 : Int64) (a2 : Int64) (a3 : Int), k < 512 → I k c S M → iR a3 → ∃ (t : Int) (r : Int) (c9 : CW) (S9 : WS) (r' : Int) (M1 : MS) (t' : Int) (M2 : MS), s_WT_ask c S a1 a2 a3 = some ((t, r), c9, S9) ∧ s_Mo_ask M a1 a2 a3 = some (r', M1) ∧ s_Mo_thrown M1 = some (t', M2) ∧ ((t = 0 ∧ w32 t' = 0 ∧ w32 r = w32 r') ∨ (t = 2 ∧ w32 t' = 1)) ∧ I (k + 1) c9 S9 M2
def st_names (I : Nat → CW → WS → MS → Prop) : Prop := ∀ (k : Nat) (c : CW) (S : WS) (M : MS), k < 512 → I k c S M → ∃ (r : Int) (S9 : WS) (r' : Int) (M1 : MS), s_WT_names c S = some (r, S9) ∧ s_Mo_names M = some (r', M1) ∧ w32 r = w32 r' ∧ I (k + 1) c S9 M1
def st_text (I : Nat → CW → WS → MS → Prop) : Prop := ∀ (k : Nat) (c : CW) (S : WS) (M : MS) (a1 : Int) (a2 : Int) (a3 : Int), k < 512 → I k c S M → iR a1 → iR a2 → iR a3 → ∃ (t : Int) (r : Int) (c9 : CW) (S9 : WS) (r' : Int) (M1 : MS) (t' : Int) (M2 : MS), s_WT_text c S a1 a2 a3 = some ((t, r), c9, S9) ∧ s_Mo_text M a1 a2 a3 = some (r', M1) ∧ s_Mo_thrown M1 = some (t', M2) ∧ ((t = 0 ∧ w32 t' = 0 ∧ w32 r = w32 r') ∨ (t = 3 ∧ w32 t' = 1)) ∧ I (k + 1) c9 S9 M2
def st_isThere (I : Nat → CW → WS → MS → Prop) : Prop := ∀ (k : Nat) (c : CW) (S : WS) (M : MS) (a1 : Int) (a2 : Int), k < 512 → I k c S M → iR a1 → iR a2 → ∃ (t : Int) (r : Int) (c9 : CW) (S9 : WS) (r' : Int) (M1 : MS) (t' : Int) (M2 : MS), s_WT_isThere c S a1 a2 = some ((t, r), c9, S9) ∧ s_Mo_isThere M a1 a2 = some (r', M1) ∧ s_Mo_thrown M1 = some (t', M2) ∧ ((t = 0 ∧ w32 t' = 0 ∧ (w32 r = 0 ↔ w32 r' = 0)) ∨ (t = 3 ∧ w32 t' = 1)) ∧ I (k + 1) c9 S9 M2
def st_cell (I : Nat → CW → WS → MS → Prop) : Prop := ∀ (k : Nat) (c : CW) (S : WS) (M : MS) (a1 : Int) (a2 : Int), k < 512 → I k c S M → iR a1 → iR a2 → ∃ (t : Int) (r : Int64) (c9 : CW) (S9 : WS) (r' : Int64) (M1 : MS) (t' : Int) (M2 : MS), s_WT_cell c S a1 a2 = some ((t, r), c9, S9) ∧ s_Mo_cell M a1 a2 = some (r', M1) ∧ s_Mo_thrown M1 = some (t', M2) ∧ ((t = 0 ∧ w32 t' = 0 ∧ r = r') ∨ (t = 3 ∧ w32 t' = 1)) ∧ I (k + 1) c9 S9 M2
def st_last (I : Nat → CW → WS → MS → Prop) : Prop := ∀ (k : Nat) (c : CW) (S : WS) (M : MS) (a1 : Int), k < 512 → I k c S M → iR a1 → ∃ (t : Int) (r : Int64) (c9 : CW) (S9 : WS) (r' : Int64) (M1 : MS) (t' : Int) (M2 : MS), s_WT_last c S a1 = some ((t, r), c9, S9) ∧ s_Mo_last M a1 = some (r', M1) ∧ s_Mo_thrown M1 = some (t', M2) ∧ ((t = 0 ∧ w32 t' = 0 ∧ r = r') ∨ (t = 3 ∧ w32 t' = 1)) ∧ I (k + 1) c9 S9 M2
def st_pack (I : Nat → CW → WS → MS → Prop) : Prop := ∀ (k : Nat) (c : CW) (S : WS) (M : MS), k < 512 → I k c S M → ∃ (t : Int) (r : Int) (c9 : CW) (S9 : WS) (r' : Int) (M1 : MS) (t' : Int) (M2 : MS), s_WT_pack c S = some ((t, r), c9, S9) ∧ s_Mo_pack M = some (r', M1) ∧ s_Mo_thrown M1 = some (t', M2) ∧ ((t = 0 ∧ w32 t' = 0 ∧ w32 r = w32 r') ∨ (t = 1 ∧ w32 t' = 1)) ∧ I (k + 1) c9 S9 M2
def st_count (I : Nat → CW → WS → MS → Prop) : Prop := ∀ (k : Nat) (c : CW) (S : WS) (M : MS) (a1 : Int), k < 512 → I k c S M → iR a1 → ∃ (t : Int) (r : Int) (c9 : CW) (S9 : WS) (r' : Int) (M1 : MS) (t' : Int) (M2 : MS), s_WT_count c S a1 = some ((t, r), c9, S9) ∧ s_Mo_count M a1 = some (r', M1) ∧ s_Mo_thrown M1 = some (t', M2) ∧ ((t = 0 ∧ w32 t' = 0 ∧ w32 r = w32 r') ∨ (t = 2 ∧ w32 t' = 1)) ∧ I (k + 1) c9 S9 M2

set_option maxHeartbeats 4000000 in
set_option maxRecDepth 100000 in
theorem lc_feed {I : Nat → CW → WS → MS → Prop} (st : st_feed I) {X : jx_T} {D : jd_T} {b n o : Nat} {xs : Nat → Int32} {g gm : Nat → Nat} (W : lawW X D b n xs) {k : Nat} {A : AW} {c : CW} {S : WS} {fo : Int → Int64} {M : MS} (hk : k < 512) (hkn : 6 * (k : Int) + 6 ≤ (n : Int)) (hcc : c.bc ≤ 601024 ∧ c.bs ≤ 7293034) (hI0 : I k c S M) (next : ∀ (A : AW) (c : CW) (S : WS) (fo : Int → Int64) (M : MS), (c.bc ≤ 601024 ∧ c.bs ≤ 7293034) → I (k + 1) c S M → jw X (601024 - c.bc) (7293034 - c.bs) ((wtL D g A c S ++ [al D 2 o 1 fo]) ++ moL D gm M) [(4, .int (ii (6 * (k : Int)))), (0, .ref b), (1, .ref (g 0)), (2, .ref (gm 0)), (3, .ref o)] 1398 []) : jw X (601024 - c.bc) (7293034 - c.bs) ((wtL D g A c S ++ [al D 2 o 1 fo]) ++ moL D gm M) [(4, .int (ii (6 * (k : Int)))), (0, .ref b), (1, .ref (g 0)), (2, .ref (gm 0)), (3, .ref o)] 124 [] := by
  obtain ⟨ok, hI, hTT, hNN, hnt, hR, hN, hX, hbl, hbA, hn0⟩ := W
  have hn : n ≤ 2147483647 := by omega
  obtain ⟨t, r, c9, S9, r', M1, t', M2, e1, e2, e3, hc, hI9⟩ := st k c S M ((xs (6 * (k : Int) + 1).toNat).toInt) ((xs (6 * (k : Int) + 2).toNat).toInt) ((xs (6 * (k : Int) + 3).toNat).toInt) ((xs (6 * (k : Int) + 4).toNat).toInt) ((xs (6 * (k : Int) + 5).toNat).toInt) hk hI0 (xs_R _) (xs_R _) (xs_R _) (xs_R _) (xs_R _)
  rcases hc with ⟨rfl, ht', hr⟩ | ⟨rfl, ht'⟩
  · skip
    refine jr_aload_n ok 2 d_La_law_124 rfl rfl ?_
    refine jr_aload_n ok 1 d_La_law_125 rfl rfl ?_
    refine jr_iload ok 0 d_La_law_126 rfl ?_
    refine jr_iconst ok d_La_law_128 ?_
    refine jr_iadd ok d_La_law_129 ?_
    refine jr_sld ok hX hbl hbA hn (by omega) (by omega) d_La_law_130 ?_
    refine jr_aload_n ok 1 d_La_law_131 rfl rfl ?_
    refine jr_iload ok 0 d_La_law_132 rfl ?_
    refine jr_iconst ok d_La_law_134 ?_
    refine jr_iadd ok d_La_law_135 ?_
    refine jr_sld ok hX hbl hbA hn (by omega) (by omega) d_La_law_136 ?_
    refine jr_aload_n ok 1 d_La_law_137 rfl rfl ?_
    refine jr_iload ok 0 d_La_law_138 rfl ?_
    refine jr_iconst ok d_La_law_140 ?_
    refine jr_iadd ok d_La_law_141 ?_
    refine jr_sld ok hX hbl hbA hn (by omega) (by omega) d_La_law_142 ?_
    refine jr_aload_n ok 1 d_La_law_143 rfl rfl ?_
    refine jr_iload ok 0 d_La_law_144 rfl ?_
    refine jr_iconst ok d_La_law_146 ?_
    refine jr_iadd ok d_La_law_147 ?_
    refine jr_sld ok hX hbl hbA hn (by omega) (by omega) d_La_law_148 ?_
    refine jr_aload_n ok 1 d_La_law_149 rfl rfl ?_
    refine jr_iload ok 0 d_La_law_150 rfl ?_
    refine jr_iconst ok d_La_law_152 ?_
    refine jr_iadd ok d_La_law_153 ?_
    refine jr_sld ok hX hbl hbA hn (by omega) (by omega) d_La_law_154 ?_
    refine jr_aload_n ok 4 d_La_law_155 rfl rfl ?_
    refine jh_callS ok hI hTT hNN m_La_79 (jgH_frame (h_La_feed (jx_l X) hnt D g A c S o fo ((xs (6 * (k : Int) + 1).toNat).toInt) ((xs (6 * (k : Int) + 2).toNat).toInt) ((xs (6 * (k : Int) + 3).toNat).toInt) ((xs (6 * (k : Int) + 4).toNat).toInt) ((xs (6 * (k : Int) + 5).toNat).toInt) 0 r c9 S9 0 (fun j => if j = 0 then ll (w32 r) else fo j) e1 (Or.inl ⟨rfl, rfl, rfl⟩)) (moL D gm M)) (fun _ => rfl) rfl rfl (Nat.le_of_ble_eq_true rfl) ⟨by rw [hR]; exact Nat.le_of_ble_eq_true rfl, by rw [hR]; exact Nat.le_of_ble_eq_true rfl⟩ ⟨by rw [hR]; show 601024 - c.bc + c.bc ≤ 601024; omega, by rw [hR]; show 7293034 - c.bs + c.bs ≤ 7293034; omega⟩ d_La_law_156 (fun A9 hφ => ?_)
    refine jr_widen (cs' := 601024 - c9.bc) (sl' := 7293034 - c9.bs) (by have := hφ.1; show 601024 - c.bc + (c.bc - c9.bc) ≤ 601024 - c9.bc; omega) (by have := hφ.2; show 7293034 - c.bs + (c.bs - c9.bs) ≤ 7293034 - c9.bs; omega) ?_
    show jw X (601024 - c9.bc) (7293034 - c9.bs) ((wtL D g A9 c9 S9 ++ [al D 2 o 1 (fun j => if j = 0 then ll (w32 r) else fo j)]) ++ moL D gm M) [(4, .int (ii (6 * (k : Int)))), (0, .ref b), (1, .ref (g 0)), (2, .ref (gm 0)), (3, .ref o)] 159 [.int (ii 0)]
    refine jr_istore [(5, .int (ii 0)), (4, .int (ii (6 * (k : Int)))), (0, .ref b), (1, .ref (g 0)), (2, .ref (gm 0)), (3, .ref o)] ok d_La_law_159 (by rw [hN]; decide) rfl ?_
    refine jr_aload_n ok 4 d_La_law_161 rfl rfl ?_
    refine jr_aload_n ok 2 d_La_law_162 rfl rfl ?_
    refine jr_iload ok 1 d_La_law_163 rfl ?_
    refine jr_iconst ok d_La_law_165 ?_
    refine jr_iadd ok d_La_law_166 ?_
    refine jr_sld ok hX hbl hbA hn (by omega) (by omega) d_La_law_167 ?_
    refine jr_aload_n ok 2 d_La_law_168 rfl rfl ?_
    refine jr_iload ok 1 d_La_law_169 rfl ?_
    refine jr_iconst ok d_La_law_171 ?_
    refine jr_iadd ok d_La_law_172 ?_
    refine jr_sld ok hX hbl hbA hn (by omega) (by omega) d_La_law_173 ?_
    refine jr_aload_n ok 2 d_La_law_174 rfl rfl ?_
    refine jr_iload ok 1 d_La_law_175 rfl ?_
    refine jr_iconst ok d_La_law_177 ?_
    refine jr_iadd ok d_La_law_178 ?_
    refine jr_sld ok hX hbl hbA hn (by omega) (by omega) d_La_law_179 ?_
    refine jr_aload_n ok 2 d_La_law_180 rfl rfl ?_
    refine jr_iload ok 1 d_La_law_181 rfl ?_
    refine jr_iconst ok d_La_law_183 ?_
    refine jr_iadd ok d_La_law_184 ?_
    refine jr_sld ok hX hbl hbA hn (by omega) (by omega) d_La_law_185 ?_
    refine jr_aload_n ok 2 d_La_law_186 rfl rfl ?_
    refine jr_iload ok 1 d_La_law_187 rfl ?_
    refine jr_iconst ok d_La_law_189 ?_
    refine jr_iadd ok d_La_law_190 ?_
    refine jr_sld ok hX hbl hbA hn (by omega) (by omega) d_La_law_191 ?_
    refine jr_swapL ?_
    refine jq_cV1 ok hR m_La_84 (jc_frame (c_Mo_feed (jx_l X) D gm M ((xs (6 * (k : Int) + 1).toNat).toInt) ((xs (6 * (k : Int) + 2).toNat).toInt) ((xs (6 * (k : Int) + 3).toNat).toInt) ((xs (6 * (k : Int) + 4).toNat).toInt) ((xs (6 * (k : Int) + 5).toNat).toInt) r' M1 e2) (wtL D g A9 c9 S9 ++ [al D 2 o 1 (fun j => if j = 0 then ll (w32 r) else fo j)])) (sg_atk 0 rfl) rfl rfl rfl (Nat.le_of_ble_eq_true rfl) ⟨Nat.le_of_ble_eq_true rfl, Nat.le_of_ble_eq_true rfl⟩ ⟨Nat.sub_le _ _, Nat.sub_le _ _⟩ d_La_law_192 ?_
    show jw X (601024 - c9.bc) (7293034 - c9.bs) (moL D gm M1 ++ (wtL D g A9 c9 S9 ++ [al D 2 o 1 (fun j => if j = 0 then ll (w32 r) else fo j)])) [(5, .int (ii 0)), (4, .int (ii (6 * (k : Int)))), (0, .ref b), (1, .ref (g 0)), (2, .ref (gm 0)), (3, .ref o)] 195 [.int (ii r')]
    refine jr_swapL ?_
    refine jr_istore [(6, .int (ii r')), (5, .int (ii 0)), (4, .int (ii (6 * (k : Int)))), (0, .ref b), (1, .ref (g 0)), (2, .ref (gm 0)), (3, .ref o)] ok d_La_law_195 (by rw [hN]; decide) rfl ?_
    refine jr_aload_n ok 5 d_La_law_197 rfl rfl ?_
    refine jr_swapL ?_
    refine jq_cV1 ok hR m_La_85 (jc_frame (c_Mo_thrown (jx_l X) D gm M1 t' M2 e3) (wtL D g A9 c9 S9 ++ [al D 2 o 1 (fun j => if j = 0 then ll (w32 r) else fo j)])) (sg_atk 0 rfl) rfl rfl rfl (Nat.le_of_ble_eq_true rfl) ⟨Nat.le_of_ble_eq_true rfl, Nat.le_of_ble_eq_true rfl⟩ ⟨Nat.sub_le _ _, Nat.sub_le _ _⟩ d_La_law_198 ?_
    show jw X (601024 - c9.bc) (7293034 - c9.bs) (moL D gm M2 ++ (wtL D g A9 c9 S9 ++ [al D 2 o 1 (fun j => if j = 0 then ll (w32 r) else fo j)])) [(6, .int (ii r')), (5, .int (ii 0)), (4, .int (ii (6 * (k : Int)))), (0, .ref b), (1, .ref (g 0)), (2, .ref (gm 0)), (3, .ref o)] 201 [.int (ii t')]
    refine jr_swapL ?_
    refine jr_iload ok 1 d_La_law_201 rfl ?_
    refine jr_wicmp_eq 208 ok ht' (show w32 0 = 0 by decide) d_La_law_203 (by decide) (fun _ => ?_) (fun z => absurd rfl z)
    refine jr_iload ok 1 d_La_law_208 rfl ?_
    refine jr_wif_ne 225 ok (show w32 0 = 0 by decide) d_La_law_210 (by decide) (fun z => absurd rfl z) (fun _ => ?_)
    refine jr_aload_n ok 6 d_La_law_213 rfl rfl ?_
    refine jr_iconst ok d_La_law_214 ?_
    refine jr_lald ok 24 rfl rfl (by decide) (by decide) d_La_law_215 ?_
    show jw X (601024 - c9.bc) (7293034 - c9.bs) ((wtL D g A9 c9 S9 ++ [al D 2 o 1 (fun j => if j = 0 then ll (w32 r) else fo j)]) ++ moL D gm M2) [(6, .int (ii r')), (5, .int (ii 0)), (4, .int (ii (6 * (k : Int)))), (0, .ref b), (1, .ref (g 0)), (2, .ref (gm 0)), (3, .ref o)] 216 [.long (ll (w32 r))]
    refine jr_iload ok 0 d_La_law_216 rfl ?_
    refine jr_wi2l ok rfl d_La_law_218 ?_
    refine jr_lif_eq 225 ok rfl (show (ll (w32 r')).toInt = (ll (w32 r)).toInt by rw [hr]) d_La_law_219 d_La_law_220 (by decide) (fun _ => ?_) (fun z => absurd rfl z)
    refine jr_goto 1398 ok d_La_law_225 (by decide) ?_
    exact jr_lv [2, 3, 4, 5, 6] rfl (next A9 c9 S9 (fun j => if j = 0 then ll (w32 r) else fo j) M2 ⟨Nat.le_trans hφ.1 hcc.1, Nat.le_trans hφ.2 hcc.2⟩ hI9)
  · skip
    refine jr_aload_n ok 2 d_La_law_124 rfl rfl ?_
    refine jr_aload_n ok 1 d_La_law_125 rfl rfl ?_
    refine jr_iload ok 0 d_La_law_126 rfl ?_
    refine jr_iconst ok d_La_law_128 ?_
    refine jr_iadd ok d_La_law_129 ?_
    refine jr_sld ok hX hbl hbA hn (by omega) (by omega) d_La_law_130 ?_
    refine jr_aload_n ok 1 d_La_law_131 rfl rfl ?_
    refine jr_iload ok 0 d_La_law_132 rfl ?_
    refine jr_iconst ok d_La_law_134 ?_
    refine jr_iadd ok d_La_law_135 ?_
    refine jr_sld ok hX hbl hbA hn (by omega) (by omega) d_La_law_136 ?_
    refine jr_aload_n ok 1 d_La_law_137 rfl rfl ?_
    refine jr_iload ok 0 d_La_law_138 rfl ?_
    refine jr_iconst ok d_La_law_140 ?_
    refine jr_iadd ok d_La_law_141 ?_
    refine jr_sld ok hX hbl hbA hn (by omega) (by omega) d_La_law_142 ?_
    refine jr_aload_n ok 1 d_La_law_143 rfl rfl ?_
    refine jr_iload ok 0 d_La_law_144 rfl ?_
    refine jr_iconst ok d_La_law_146 ?_
    refine jr_iadd ok d_La_law_147 ?_
    refine jr_sld ok hX hbl hbA hn (by omega) (by omega) d_La_law_148 ?_
    refine jr_aload_n ok 1 d_La_law_149 rfl rfl ?_
    refine jr_iload ok 0 d_La_law_150 rfl ?_
    refine jr_iconst ok d_La_law_152 ?_
    refine jr_iadd ok d_La_law_153 ?_
    refine jr_sld ok hX hbl hbA hn (by omega) (by omega) d_La_law_154 ?_
    refine jr_aload_n ok 4 d_La_law_155 rfl rfl ?_
    refine jh_callS ok hI hTT hNN m_La_79 (jgH_frame (h_La_feed (jx_l X) hnt D g A c S o fo ((xs (6 * (k : Int) + 1).toNat).toInt) ((xs (6 * (k : Int) + 2).toNat).toInt) ((xs (6 * (k : Int) + 3).toNat).toInt) ((xs (6 * (k : Int) + 4).toNat).toInt) ((xs (6 * (k : Int) + 5).toNat).toInt) 1 r c9 S9 1 fo e1 (Or.inr ⟨rfl, rfl, rfl⟩)) (moL D gm M)) (fun _ => rfl) rfl rfl (Nat.le_of_ble_eq_true rfl) ⟨by rw [hR]; exact Nat.le_of_ble_eq_true rfl, by rw [hR]; exact Nat.le_of_ble_eq_true rfl⟩ ⟨by rw [hR]; show 601024 - c.bc + c.bc ≤ 601024; omega, by rw [hR]; show 7293034 - c.bs + c.bs ≤ 7293034; omega⟩ d_La_law_156 (fun A9 hφ => ?_)
    refine jr_widen (cs' := 601024 - c9.bc) (sl' := 7293034 - c9.bs) (by have := hφ.1; show 601024 - c.bc + (c.bc - c9.bc) ≤ 601024 - c9.bc; omega) (by have := hφ.2; show 7293034 - c.bs + (c.bs - c9.bs) ≤ 7293034 - c9.bs; omega) ?_
    show jw X (601024 - c9.bc) (7293034 - c9.bs) ((wtL D g A9 c9 S9 ++ [al D 2 o 1 fo]) ++ moL D gm M) [(4, .int (ii (6 * (k : Int)))), (0, .ref b), (1, .ref (g 0)), (2, .ref (gm 0)), (3, .ref o)] 159 [.int (ii 1)]
    refine jr_istore [(5, .int (ii 1)), (4, .int (ii (6 * (k : Int)))), (0, .ref b), (1, .ref (g 0)), (2, .ref (gm 0)), (3, .ref o)] ok d_La_law_159 (by rw [hN]; decide) rfl ?_
    refine jr_aload_n ok 4 d_La_law_161 rfl rfl ?_
    refine jr_aload_n ok 2 d_La_law_162 rfl rfl ?_
    refine jr_iload ok 1 d_La_law_163 rfl ?_
    refine jr_iconst ok d_La_law_165 ?_
    refine jr_iadd ok d_La_law_166 ?_
    refine jr_sld ok hX hbl hbA hn (by omega) (by omega) d_La_law_167 ?_
    refine jr_aload_n ok 2 d_La_law_168 rfl rfl ?_
    refine jr_iload ok 1 d_La_law_169 rfl ?_
    refine jr_iconst ok d_La_law_171 ?_
    refine jr_iadd ok d_La_law_172 ?_
    refine jr_sld ok hX hbl hbA hn (by omega) (by omega) d_La_law_173 ?_
    refine jr_aload_n ok 2 d_La_law_174 rfl rfl ?_
    refine jr_iload ok 1 d_La_law_175 rfl ?_
    refine jr_iconst ok d_La_law_177 ?_
    refine jr_iadd ok d_La_law_178 ?_
    refine jr_sld ok hX hbl hbA hn (by omega) (by omega) d_La_law_179 ?_
    refine jr_aload_n ok 2 d_La_law_180 rfl rfl ?_
    refine jr_iload ok 1 d_La_law_181 rfl ?_
    refine jr_iconst ok d_La_law_183 ?_
    refine jr_iadd ok d_La_law_184 ?_
    refine jr_sld ok hX hbl hbA hn (by omega) (by omega) d_La_law_185 ?_
    refine jr_aload_n ok 2 d_La_law_186 rfl rfl ?_
    refine jr_iload ok 1 d_La_law_187 rfl ?_
    refine jr_iconst ok d_La_law_189 ?_
    refine jr_iadd ok d_La_law_190 ?_
    refine jr_sld ok hX hbl hbA hn (by omega) (by omega) d_La_law_191 ?_
    refine jr_swapL ?_
    refine jq_cV1 ok hR m_La_84 (jc_frame (c_Mo_feed (jx_l X) D gm M ((xs (6 * (k : Int) + 1).toNat).toInt) ((xs (6 * (k : Int) + 2).toNat).toInt) ((xs (6 * (k : Int) + 3).toNat).toInt) ((xs (6 * (k : Int) + 4).toNat).toInt) ((xs (6 * (k : Int) + 5).toNat).toInt) r' M1 e2) (wtL D g A9 c9 S9 ++ [al D 2 o 1 fo])) (sg_atk 0 rfl) rfl rfl rfl (Nat.le_of_ble_eq_true rfl) ⟨Nat.le_of_ble_eq_true rfl, Nat.le_of_ble_eq_true rfl⟩ ⟨Nat.sub_le _ _, Nat.sub_le _ _⟩ d_La_law_192 ?_
    show jw X (601024 - c9.bc) (7293034 - c9.bs) (moL D gm M1 ++ (wtL D g A9 c9 S9 ++ [al D 2 o 1 fo])) [(5, .int (ii 1)), (4, .int (ii (6 * (k : Int)))), (0, .ref b), (1, .ref (g 0)), (2, .ref (gm 0)), (3, .ref o)] 195 [.int (ii r')]
    refine jr_swapL ?_
    refine jr_istore [(6, .int (ii r')), (5, .int (ii 1)), (4, .int (ii (6 * (k : Int)))), (0, .ref b), (1, .ref (g 0)), (2, .ref (gm 0)), (3, .ref o)] ok d_La_law_195 (by rw [hN]; decide) rfl ?_
    refine jr_aload_n ok 5 d_La_law_197 rfl rfl ?_
    refine jr_swapL ?_
    refine jq_cV1 ok hR m_La_85 (jc_frame (c_Mo_thrown (jx_l X) D gm M1 t' M2 e3) (wtL D g A9 c9 S9 ++ [al D 2 o 1 fo])) (sg_atk 0 rfl) rfl rfl rfl (Nat.le_of_ble_eq_true rfl) ⟨Nat.le_of_ble_eq_true rfl, Nat.le_of_ble_eq_true rfl⟩ ⟨Nat.sub_le _ _, Nat.sub_le _ _⟩ d_La_law_198 ?_
    show jw X (601024 - c9.bc) (7293034 - c9.bs) (moL D gm M2 ++ (wtL D g A9 c9 S9 ++ [al D 2 o 1 fo])) [(6, .int (ii r')), (5, .int (ii 1)), (4, .int (ii (6 * (k : Int)))), (0, .ref b), (1, .ref (g 0)), (2, .ref (gm 0)), (3, .ref o)] 201 [.int (ii t')]
    refine jr_swapL ?_
    refine jr_iload ok 1 d_La_law_201 rfl ?_
    refine jr_wicmp_eq 208 ok ht' (show w32 1 = 1 by decide) d_La_law_203 (by decide) (fun _ => ?_) (fun z => absurd rfl z)
    refine jr_iload ok 1 d_La_law_208 rfl ?_
    refine jr_wif_ne 225 ok (show w32 1 = 1 by decide) d_La_law_210 (by decide) (fun _ => ?_) (fun z => absurd z (by decide))
    refine jr_goto 1398 ok d_La_law_225 (by decide) ?_
    exact jr_lv [2, 3, 4, 5, 6] rfl (next A9 c9 S9 fo M2 ⟨Nat.le_trans hφ.1 hcc.1, Nat.le_trans hφ.2 hcc.2⟩ hI9)

set_option maxHeartbeats 4000000 in
set_option maxRecDepth 100000 in
theorem lc_end {I : Nat → CW → WS → MS → Prop} (st : st_end I) {X : jx_T} {D : jd_T} {b n o : Nat} {xs : Nat → Int32} {g gm : Nat → Nat} (W : lawW X D b n xs) {k : Nat} {A : AW} {c : CW} {S : WS} {fo : Int → Int64} {M : MS} (hk : k < 512) (hkn : 6 * (k : Int) + 6 ≤ (n : Int)) (hcc : c.bc ≤ 601024 ∧ c.bs ≤ 7293034) (hI0 : I k c S M) (next : ∀ (A : AW) (c : CW) (S : WS) (fo : Int → Int64) (M : MS), (c.bc ≤ 601024 ∧ c.bs ≤ 7293034) → I (k + 1) c S M → jw X (601024 - c.bc) (7293034 - c.bs) ((wtL D g A c S ++ [al D 2 o 1 fo]) ++ moL D gm M) [(4, .int (ii (6 * (k : Int)))), (0, .ref b), (1, .ref (g 0)), (2, .ref (gm 0)), (3, .ref o)] 1398 []) : jw X (601024 - c.bc) (7293034 - c.bs) ((wtL D g A c S ++ [al D 2 o 1 fo]) ++ moL D gm M) [(4, .int (ii (6 * (k : Int)))), (0, .ref b), (1, .ref (g 0)), (2, .ref (gm 0)), (3, .ref o)] 228 [] := by
  obtain ⟨ok, hI, hTT, hNN, hnt, hR, hN, hX, hbl, hbA, hn0⟩ := W
  have hn : n ≤ 2147483647 := by omega
  obtain ⟨t, r, c9, S9, r', M1, t', M2, e1, e2, e3, hc, hI9⟩ := st k c S M ((xs (6 * (k : Int) + 1).toNat).toInt) hk hI0 (xs_R _)
  rcases hc with ⟨rfl, ht', hr⟩ | ⟨rfl, ht'⟩
  · skip
    refine jr_aload_n ok 2 d_La_law_228 rfl rfl ?_
    refine jr_aload_n ok 1 d_La_law_229 rfl rfl ?_
    refine jr_iload ok 0 d_La_law_230 rfl ?_
    refine jr_iconst ok d_La_law_232 ?_
    refine jr_iadd ok d_La_law_233 ?_
    refine jr_sld ok hX hbl hbA hn (by omega) (by omega) d_La_law_234 ?_
    refine jh_callS ok hI hTT hNN m_La_88 (jgH_frame (h_La_end (jx_l X) hnt D g A c S o fo ((xs (6 * (k : Int) + 1).toNat).toInt) 0 r c9 S9 0 fo e1 (Or.inl ⟨rfl, rfl, rfl⟩)) (moL D gm M)) (fun _ => rfl) rfl rfl (Nat.le_of_ble_eq_true rfl) ⟨by rw [hR]; exact Nat.le_of_ble_eq_true rfl, by rw [hR]; exact Nat.le_of_ble_eq_true rfl⟩ ⟨by rw [hR]; show 601024 - c.bc + c.bc ≤ 601024; omega, by rw [hR]; show 7293034 - c.bs + c.bs ≤ 7293034; omega⟩ d_La_law_235 (fun A9 hφ => ?_)
    refine jr_widen (cs' := 601024 - c9.bc) (sl' := 7293034 - c9.bs) (by have := hφ.1; show 601024 - c.bc + (c.bc - c9.bc) ≤ 601024 - c9.bc; omega) (by have := hφ.2; show 7293034 - c.bs + (c.bs - c9.bs) ≤ 7293034 - c9.bs; omega) ?_
    show jw X (601024 - c9.bc) (7293034 - c9.bs) ((wtL D g A9 c9 S9 ++ [al D 2 o 1 fo]) ++ moL D gm M) [(4, .int (ii (6 * (k : Int)))), (0, .ref b), (1, .ref (g 0)), (2, .ref (gm 0)), (3, .ref o)] 238 [.int (ii 0)]
    refine jr_istore [(5, .int (ii 0)), (4, .int (ii (6 * (k : Int)))), (0, .ref b), (1, .ref (g 0)), (2, .ref (gm 0)), (3, .ref o)] ok d_La_law_238 (by rw [hN]; decide) rfl ?_
    refine jr_aload_n ok 4 d_La_law_240 rfl rfl ?_
    refine jr_aload_n ok 2 d_La_law_241 rfl rfl ?_
    refine jr_iload ok 1 d_La_law_242 rfl ?_
    refine jr_iconst ok d_La_law_244 ?_
    refine jr_iadd ok d_La_law_245 ?_
    refine jr_sld ok hX hbl hbA hn (by omega) (by omega) d_La_law_246 ?_
    refine jr_swapL ?_
    refine jq_cV0 ok hR m_La_91 (jc_frame (c_Mo_end (jx_l X) D gm M ((xs (6 * (k : Int) + 1).toNat).toInt) r' M1 e2) (wtL D g A9 c9 S9 ++ [al D 2 o 1 fo])) (sg_atk 0 rfl) rfl rfl rfl (Nat.le_of_ble_eq_true rfl) ⟨Nat.le_of_ble_eq_true rfl, Nat.le_of_ble_eq_true rfl⟩ ⟨Nat.sub_le _ _, Nat.sub_le _ _⟩ d_La_law_247 ?_
    show jw X (601024 - c9.bc) (7293034 - c9.bs) (moL D gm M1 ++ (wtL D g A9 c9 S9 ++ [al D 2 o 1 fo])) [(5, .int (ii 0)), (4, .int (ii (6 * (k : Int)))), (0, .ref b), (1, .ref (g 0)), (2, .ref (gm 0)), (3, .ref o)] 250 []
    refine jr_swapL ?_
    refine jr_aload_n ok 4 d_La_law_250 rfl rfl ?_
    refine jr_swapL ?_
    refine jq_cV1 ok hR m_La_85 (jc_frame (c_Mo_thrown (jx_l X) D gm M1 t' M2 e3) (wtL D g A9 c9 S9 ++ [al D 2 o 1 fo])) (sg_atk 0 rfl) rfl rfl rfl (Nat.le_of_ble_eq_true rfl) ⟨Nat.le_of_ble_eq_true rfl, Nat.le_of_ble_eq_true rfl⟩ ⟨Nat.sub_le _ _, Nat.sub_le _ _⟩ d_La_law_251 ?_
    show jw X (601024 - c9.bc) (7293034 - c9.bs) (moL D gm M2 ++ (wtL D g A9 c9 S9 ++ [al D 2 o 1 fo])) [(5, .int (ii 0)), (4, .int (ii (6 * (k : Int)))), (0, .ref b), (1, .ref (g 0)), (2, .ref (gm 0)), (3, .ref o)] 254 [.int (ii t')]
    refine jr_swapL ?_
    refine jr_iload ok 0 d_La_law_254 rfl ?_
    refine jr_wicmp_eq 261 ok ht' (show w32 0 = 0 by decide) d_La_law_256 (by decide) (fun _ => ?_) (fun z => absurd rfl z)
    refine jr_goto 1398 ok d_La_law_261 (by decide) ?_
    exact jr_lv [1, 2, 3, 4, 5] rfl (next A9 c9 S9 fo M2 ⟨Nat.le_trans hφ.1 hcc.1, Nat.le_trans hφ.2 hcc.2⟩ hI9)
  · skip
    refine jr_aload_n ok 2 d_La_law_228 rfl rfl ?_
    refine jr_aload_n ok 1 d_La_law_229 rfl rfl ?_
    refine jr_iload ok 0 d_La_law_230 rfl ?_
    refine jr_iconst ok d_La_law_232 ?_
    refine jr_iadd ok d_La_law_233 ?_
    refine jr_sld ok hX hbl hbA hn (by omega) (by omega) d_La_law_234 ?_
    refine jh_callS ok hI hTT hNN m_La_88 (jgH_frame (h_La_end (jx_l X) hnt D g A c S o fo ((xs (6 * (k : Int) + 1).toNat).toInt) 2 r c9 S9 1 fo e1 (Or.inr ⟨rfl, rfl, rfl⟩)) (moL D gm M)) (fun _ => rfl) rfl rfl (Nat.le_of_ble_eq_true rfl) ⟨by rw [hR]; exact Nat.le_of_ble_eq_true rfl, by rw [hR]; exact Nat.le_of_ble_eq_true rfl⟩ ⟨by rw [hR]; show 601024 - c.bc + c.bc ≤ 601024; omega, by rw [hR]; show 7293034 - c.bs + c.bs ≤ 7293034; omega⟩ d_La_law_235 (fun A9 hφ => ?_)
    refine jr_widen (cs' := 601024 - c9.bc) (sl' := 7293034 - c9.bs) (by have := hφ.1; show 601024 - c.bc + (c.bc - c9.bc) ≤ 601024 - c9.bc; omega) (by have := hφ.2; show 7293034 - c.bs + (c.bs - c9.bs) ≤ 7293034 - c9.bs; omega) ?_
    show jw X (601024 - c9.bc) (7293034 - c9.bs) ((wtL D g A9 c9 S9 ++ [al D 2 o 1 fo]) ++ moL D gm M) [(4, .int (ii (6 * (k : Int)))), (0, .ref b), (1, .ref (g 0)), (2, .ref (gm 0)), (3, .ref o)] 238 [.int (ii 1)]
    refine jr_istore [(5, .int (ii 1)), (4, .int (ii (6 * (k : Int)))), (0, .ref b), (1, .ref (g 0)), (2, .ref (gm 0)), (3, .ref o)] ok d_La_law_238 (by rw [hN]; decide) rfl ?_
    refine jr_aload_n ok 4 d_La_law_240 rfl rfl ?_
    refine jr_aload_n ok 2 d_La_law_241 rfl rfl ?_
    refine jr_iload ok 1 d_La_law_242 rfl ?_
    refine jr_iconst ok d_La_law_244 ?_
    refine jr_iadd ok d_La_law_245 ?_
    refine jr_sld ok hX hbl hbA hn (by omega) (by omega) d_La_law_246 ?_
    refine jr_swapL ?_
    refine jq_cV0 ok hR m_La_91 (jc_frame (c_Mo_end (jx_l X) D gm M ((xs (6 * (k : Int) + 1).toNat).toInt) r' M1 e2) (wtL D g A9 c9 S9 ++ [al D 2 o 1 fo])) (sg_atk 0 rfl) rfl rfl rfl (Nat.le_of_ble_eq_true rfl) ⟨Nat.le_of_ble_eq_true rfl, Nat.le_of_ble_eq_true rfl⟩ ⟨Nat.sub_le _ _, Nat.sub_le _ _⟩ d_La_law_247 ?_
    show jw X (601024 - c9.bc) (7293034 - c9.bs) (moL D gm M1 ++ (wtL D g A9 c9 S9 ++ [al D 2 o 1 fo])) [(5, .int (ii 1)), (4, .int (ii (6 * (k : Int)))), (0, .ref b), (1, .ref (g 0)), (2, .ref (gm 0)), (3, .ref o)] 250 []
    refine jr_swapL ?_
    refine jr_aload_n ok 4 d_La_law_250 rfl rfl ?_
    refine jr_swapL ?_
    refine jq_cV1 ok hR m_La_85 (jc_frame (c_Mo_thrown (jx_l X) D gm M1 t' M2 e3) (wtL D g A9 c9 S9 ++ [al D 2 o 1 fo])) (sg_atk 0 rfl) rfl rfl rfl (Nat.le_of_ble_eq_true rfl) ⟨Nat.le_of_ble_eq_true rfl, Nat.le_of_ble_eq_true rfl⟩ ⟨Nat.sub_le _ _, Nat.sub_le _ _⟩ d_La_law_251 ?_
    show jw X (601024 - c9.bc) (7293034 - c9.bs) (moL D gm M2 ++ (wtL D g A9 c9 S9 ++ [al D 2 o 1 fo])) [(5, .int (ii 1)), (4, .int (ii (6 * (k : Int)))), (0, .ref b), (1, .ref (g 0)), (2, .ref (gm 0)), (3, .ref o)] 254 [.int (ii t')]
    refine jr_swapL ?_
    refine jr_iload ok 0 d_La_law_254 rfl ?_
    refine jr_wicmp_eq 261 ok ht' (show w32 1 = 1 by decide) d_La_law_256 (by decide) (fun _ => ?_) (fun z => absurd rfl z)
    refine jr_goto 1398 ok d_La_law_261 (by decide) ?_
    exact jr_lv [1, 2, 3, 4, 5] rfl (next A9 c9 S9 fo M2 ⟨Nat.le_trans hφ.1 hcc.1, Nat.le_trans hφ.2 hcc.2⟩ hI9)

set_option maxHeartbeats 4000000 in
set_option maxRecDepth 100000 in
theorem lc_series {I : Nat → CW → WS → MS → Prop} (st : st_series I) {X : jx_T} {D : jd_T} {b n o : Nat} {xs : Nat → Int32} {g gm : Nat → Nat} (W : lawW X D b n xs) {k : Nat} {A : AW} {c : CW} {S : WS} {fo : Int → Int64} {M : MS} (hk : k < 512) (hkn : 6 * (k : Int) + 6 ≤ (n : Int)) (hcc : c.bc ≤ 601024 ∧ c.bs ≤ 7293034) (hI0 : I k c S M) (next : ∀ (A : AW) (c : CW) (S : WS) (fo : Int → Int64) (M : MS), (c.bc ≤ 601024 ∧ c.bs ≤ 7293034) → I (k + 1) c S M → jw X (601024 - c.bc) (7293034 - c.bs) ((wtL D g A c S ++ [al D 2 o 1 fo]) ++ moL D gm M) [(4, .int (ii (6 * (k : Int)))), (0, .ref b), (1, .ref (g 0)), (2, .ref (gm 0)), (3, .ref o)] 1398 []) : jw X (601024 - c.bc) (7293034 - c.bs) ((wtL D g A c S ++ [al D 2 o 1 fo]) ++ moL D gm M) [(4, .int (ii (6 * (k : Int)))), (0, .ref b), (1, .ref (g 0)), (2, .ref (gm 0)), (3, .ref o)] 264 [] := by
  obtain ⟨ok, hI, hTT, hNN, hnt, hR, hN, hX, hbl, hbA, hn0⟩ := W
  have hn : n ≤ 2147483647 := by omega
  obtain ⟨t, r, c9, S9, r', M1, t', M2, e1, e2, e3, hc, hI9⟩ := st k c S M  hk hI0 
  rcases hc with ⟨rfl, ht', hr⟩ | ⟨rfl, ht'⟩
  · skip
    refine jr_aload_n ok 2 d_La_law_264 rfl rfl ?_
    refine jr_aload_n ok 4 d_La_law_265 rfl rfl ?_
    refine jh_callS ok hI hTT hNN m_La_92 (jgH_frame (h_La_series (jx_l X) hnt D g A c S o fo  0 r c9 S9 0 (fun j => if j = 0 then ll (w32 r) else fo j) e1 (Or.inl ⟨rfl, rfl, rfl⟩)) (moL D gm M)) (fun _ => rfl) rfl rfl (Nat.le_of_ble_eq_true rfl) ⟨by rw [hR]; exact Nat.le_of_ble_eq_true rfl, by rw [hR]; exact Nat.le_of_ble_eq_true rfl⟩ ⟨by rw [hR]; show 601024 - c.bc + c.bc ≤ 601024; omega, by rw [hR]; show 7293034 - c.bs + c.bs ≤ 7293034; omega⟩ d_La_law_266 (fun A9 hφ => ?_)
    refine jr_widen (cs' := 601024 - c9.bc) (sl' := 7293034 - c9.bs) (by have := hφ.1; show 601024 - c.bc + (c.bc - c9.bc) ≤ 601024 - c9.bc; omega) (by have := hφ.2; show 7293034 - c.bs + (c.bs - c9.bs) ≤ 7293034 - c9.bs; omega) ?_
    show jw X (601024 - c9.bc) (7293034 - c9.bs) ((wtL D g A9 c9 S9 ++ [al D 2 o 1 (fun j => if j = 0 then ll (w32 r) else fo j)]) ++ moL D gm M) [(4, .int (ii (6 * (k : Int)))), (0, .ref b), (1, .ref (g 0)), (2, .ref (gm 0)), (3, .ref o)] 269 [.int (ii 0)]
    refine jr_istore [(5, .int (ii 0)), (4, .int (ii (6 * (k : Int)))), (0, .ref b), (1, .ref (g 0)), (2, .ref (gm 0)), (3, .ref o)] ok d_La_law_269 (by rw [hN]; decide) rfl ?_
    refine jr_aload_n ok 4 d_La_law_271 rfl rfl ?_
    refine jr_swapL ?_
    refine jq_cV1 ok hR m_La_95 (jc_frame (c_Mo_series (jx_l X) D gm M  r' M1 e2) (wtL D g A9 c9 S9 ++ [al D 2 o 1 (fun j => if j = 0 then ll (w32 r) else fo j)])) (sg_atk 0 rfl) rfl rfl rfl (Nat.le_of_ble_eq_true rfl) ⟨Nat.le_of_ble_eq_true rfl, Nat.le_of_ble_eq_true rfl⟩ ⟨Nat.sub_le _ _, Nat.sub_le _ _⟩ d_La_law_272 ?_
    show jw X (601024 - c9.bc) (7293034 - c9.bs) (moL D gm M1 ++ (wtL D g A9 c9 S9 ++ [al D 2 o 1 (fun j => if j = 0 then ll (w32 r) else fo j)])) [(5, .int (ii 0)), (4, .int (ii (6 * (k : Int)))), (0, .ref b), (1, .ref (g 0)), (2, .ref (gm 0)), (3, .ref o)] 275 [.int (ii r')]
    refine jr_swapL ?_
    refine jr_istore [(6, .int (ii r')), (5, .int (ii 0)), (4, .int (ii (6 * (k : Int)))), (0, .ref b), (1, .ref (g 0)), (2, .ref (gm 0)), (3, .ref o)] ok d_La_law_275 (by rw [hN]; decide) rfl ?_
    refine jr_aload_n ok 5 d_La_law_277 rfl rfl ?_
    refine jr_swapL ?_
    refine jq_cV1 ok hR m_La_85 (jc_frame (c_Mo_thrown (jx_l X) D gm M1 t' M2 e3) (wtL D g A9 c9 S9 ++ [al D 2 o 1 (fun j => if j = 0 then ll (w32 r) else fo j)])) (sg_atk 0 rfl) rfl rfl rfl (Nat.le_of_ble_eq_true rfl) ⟨Nat.le_of_ble_eq_true rfl, Nat.le_of_ble_eq_true rfl⟩ ⟨Nat.sub_le _ _, Nat.sub_le _ _⟩ d_La_law_278 ?_
    show jw X (601024 - c9.bc) (7293034 - c9.bs) (moL D gm M2 ++ (wtL D g A9 c9 S9 ++ [al D 2 o 1 (fun j => if j = 0 then ll (w32 r) else fo j)])) [(6, .int (ii r')), (5, .int (ii 0)), (4, .int (ii (6 * (k : Int)))), (0, .ref b), (1, .ref (g 0)), (2, .ref (gm 0)), (3, .ref o)] 281 [.int (ii t')]
    refine jr_swapL ?_
    refine jr_iload ok 1 d_La_law_281 rfl ?_
    refine jr_wicmp_eq 288 ok ht' (show w32 0 = 0 by decide) d_La_law_283 (by decide) (fun _ => ?_) (fun z => absurd rfl z)
    refine jr_iload ok 1 d_La_law_288 rfl ?_
    refine jr_wif_ne 305 ok (show w32 0 = 0 by decide) d_La_law_290 (by decide) (fun z => absurd rfl z) (fun _ => ?_)
    refine jr_aload_n ok 6 d_La_law_293 rfl rfl ?_
    refine jr_iconst ok d_La_law_294 ?_
    refine jr_lald ok 24 rfl rfl (by decide) (by decide) d_La_law_295 ?_
    show jw X (601024 - c9.bc) (7293034 - c9.bs) ((wtL D g A9 c9 S9 ++ [al D 2 o 1 (fun j => if j = 0 then ll (w32 r) else fo j)]) ++ moL D gm M2) [(6, .int (ii r')), (5, .int (ii 0)), (4, .int (ii (6 * (k : Int)))), (0, .ref b), (1, .ref (g 0)), (2, .ref (gm 0)), (3, .ref o)] 296 [.long (ll (w32 r))]
    refine jr_iload ok 0 d_La_law_296 rfl ?_
    refine jr_wi2l ok rfl d_La_law_298 ?_
    refine jr_lif_eq 305 ok rfl (show (ll (w32 r')).toInt = (ll (w32 r)).toInt by rw [hr]) d_La_law_299 d_La_law_300 (by decide) (fun _ => ?_) (fun z => absurd rfl z)
    refine jr_goto 1398 ok d_La_law_305 (by decide) ?_
    exact jr_lv [2, 3, 4, 5, 6] rfl (next A9 c9 S9 (fun j => if j = 0 then ll (w32 r) else fo j) M2 ⟨Nat.le_trans hφ.1 hcc.1, Nat.le_trans hφ.2 hcc.2⟩ hI9)
  · skip
    refine jr_aload_n ok 2 d_La_law_264 rfl rfl ?_
    refine jr_aload_n ok 4 d_La_law_265 rfl rfl ?_
    refine jh_callS ok hI hTT hNN m_La_92 (jgH_frame (h_La_series (jx_l X) hnt D g A c S o fo  1 r c9 S9 1 fo e1 (Or.inr ⟨rfl, rfl, rfl⟩)) (moL D gm M)) (fun _ => rfl) rfl rfl (Nat.le_of_ble_eq_true rfl) ⟨by rw [hR]; exact Nat.le_of_ble_eq_true rfl, by rw [hR]; exact Nat.le_of_ble_eq_true rfl⟩ ⟨by rw [hR]; show 601024 - c.bc + c.bc ≤ 601024; omega, by rw [hR]; show 7293034 - c.bs + c.bs ≤ 7293034; omega⟩ d_La_law_266 (fun A9 hφ => ?_)
    refine jr_widen (cs' := 601024 - c9.bc) (sl' := 7293034 - c9.bs) (by have := hφ.1; show 601024 - c.bc + (c.bc - c9.bc) ≤ 601024 - c9.bc; omega) (by have := hφ.2; show 7293034 - c.bs + (c.bs - c9.bs) ≤ 7293034 - c9.bs; omega) ?_
    show jw X (601024 - c9.bc) (7293034 - c9.bs) ((wtL D g A9 c9 S9 ++ [al D 2 o 1 fo]) ++ moL D gm M) [(4, .int (ii (6 * (k : Int)))), (0, .ref b), (1, .ref (g 0)), (2, .ref (gm 0)), (3, .ref o)] 269 [.int (ii 1)]
    refine jr_istore [(5, .int (ii 1)), (4, .int (ii (6 * (k : Int)))), (0, .ref b), (1, .ref (g 0)), (2, .ref (gm 0)), (3, .ref o)] ok d_La_law_269 (by rw [hN]; decide) rfl ?_
    refine jr_aload_n ok 4 d_La_law_271 rfl rfl ?_
    refine jr_swapL ?_
    refine jq_cV1 ok hR m_La_95 (jc_frame (c_Mo_series (jx_l X) D gm M  r' M1 e2) (wtL D g A9 c9 S9 ++ [al D 2 o 1 fo])) (sg_atk 0 rfl) rfl rfl rfl (Nat.le_of_ble_eq_true rfl) ⟨Nat.le_of_ble_eq_true rfl, Nat.le_of_ble_eq_true rfl⟩ ⟨Nat.sub_le _ _, Nat.sub_le _ _⟩ d_La_law_272 ?_
    show jw X (601024 - c9.bc) (7293034 - c9.bs) (moL D gm M1 ++ (wtL D g A9 c9 S9 ++ [al D 2 o 1 fo])) [(5, .int (ii 1)), (4, .int (ii (6 * (k : Int)))), (0, .ref b), (1, .ref (g 0)), (2, .ref (gm 0)), (3, .ref o)] 275 [.int (ii r')]
    refine jr_swapL ?_
    refine jr_istore [(6, .int (ii r')), (5, .int (ii 1)), (4, .int (ii (6 * (k : Int)))), (0, .ref b), (1, .ref (g 0)), (2, .ref (gm 0)), (3, .ref o)] ok d_La_law_275 (by rw [hN]; decide) rfl ?_
    refine jr_aload_n ok 5 d_La_law_277 rfl rfl ?_
    refine jr_swapL ?_
    refine jq_cV1 ok hR m_La_85 (jc_frame (c_Mo_thrown (jx_l X) D gm M1 t' M2 e3) (wtL D g A9 c9 S9 ++ [al D 2 o 1 fo])) (sg_atk 0 rfl) rfl rfl rfl (Nat.le_of_ble_eq_true rfl) ⟨Nat.le_of_ble_eq_true rfl, Nat.le_of_ble_eq_true rfl⟩ ⟨Nat.sub_le _ _, Nat.sub_le _ _⟩ d_La_law_278 ?_
    show jw X (601024 - c9.bc) (7293034 - c9.bs) (moL D gm M2 ++ (wtL D g A9 c9 S9 ++ [al D 2 o 1 fo])) [(6, .int (ii r')), (5, .int (ii 1)), (4, .int (ii (6 * (k : Int)))), (0, .ref b), (1, .ref (g 0)), (2, .ref (gm 0)), (3, .ref o)] 281 [.int (ii t')]
    refine jr_swapL ?_
    refine jr_iload ok 1 d_La_law_281 rfl ?_
    refine jr_wicmp_eq 288 ok ht' (show w32 1 = 1 by decide) d_La_law_283 (by decide) (fun _ => ?_) (fun z => absurd rfl z)
    refine jr_iload ok 1 d_La_law_288 rfl ?_
    refine jr_wif_ne 305 ok (show w32 1 = 1 by decide) d_La_law_290 (by decide) (fun _ => ?_) (fun z => absurd z (by decide))
    refine jr_goto 1398 ok d_La_law_305 (by decide) ?_
    exact jr_lv [2, 3, 4, 5, 6] rfl (next A9 c9 S9 fo M2 ⟨Nat.le_trans hφ.1 hcc.1, Nat.le_trans hφ.2 hcc.2⟩ hI9)

set_option maxHeartbeats 4000000 in
set_option maxRecDepth 100000 in
theorem lc_fault {I : Nat → CW → WS → MS → Prop} (st : st_fault I) {X : jx_T} {D : jd_T} {b n o : Nat} {xs : Nat → Int32} {g gm : Nat → Nat} (W : lawW X D b n xs) {k : Nat} {A : AW} {c : CW} {S : WS} {fo : Int → Int64} {M : MS} (hk : k < 512) (hkn : 6 * (k : Int) + 6 ≤ (n : Int)) (hcc : c.bc ≤ 601024 ∧ c.bs ≤ 7293034) (hI0 : I k c S M) (next : ∀ (A : AW) (c : CW) (S : WS) (fo : Int → Int64) (M : MS), (c.bc ≤ 601024 ∧ c.bs ≤ 7293034) → I (k + 1) c S M → jw X (601024 - c.bc) (7293034 - c.bs) ((wtL D g A c S ++ [al D 2 o 1 fo]) ++ moL D gm M) [(4, .int (ii (6 * (k : Int)))), (0, .ref b), (1, .ref (g 0)), (2, .ref (gm 0)), (3, .ref o)] 1398 []) : jw X (601024 - c.bc) (7293034 - c.bs) ((wtL D g A c S ++ [al D 2 o 1 fo]) ++ moL D gm M) [(4, .int (ii (6 * (k : Int)))), (0, .ref b), (1, .ref (g 0)), (2, .ref (gm 0)), (3, .ref o)] 308 [] := by
  obtain ⟨ok, hI, hTT, hNN, hnt, hR, hN, hX, hbl, hbA, hn0⟩ := W
  have hn : n ≤ 2147483647 := by omega
  obtain ⟨t, r, c9, S9, r', M1, t', M2, e1, e2, e3, hc, hI9⟩ := st k c S M ((xs (6 * (k : Int) + 1).toNat).toInt) hk hI0 (xs_R _)
  rcases hc with ⟨rfl, ht', hr⟩ | ⟨rfl, ht'⟩
  · skip
    refine jr_aload_n ok 2 d_La_law_308 rfl rfl ?_
    refine jr_aload_n ok 1 d_La_law_309 rfl rfl ?_
    refine jr_iload ok 0 d_La_law_310 rfl ?_
    refine jr_iconst ok d_La_law_312 ?_
    refine jr_iadd ok d_La_law_313 ?_
    refine jr_sld ok hX hbl hbA hn (by omega) (by omega) d_La_law_314 ?_
    refine jr_aload_n ok 4 d_La_law_315 rfl rfl ?_
    refine jh_callS ok hI hTT hNN m_La_96 (jgH_frame (h_La_fault (jx_l X) hnt D g A c S o fo ((xs (6 * (k : Int) + 1).toNat).toInt) 0 r c9 S9 0 (fun j => if j = 0 then ll (w32 r) else fo j) e1 (Or.inl ⟨rfl, rfl, rfl⟩)) (moL D gm M)) (fun _ => rfl) rfl rfl (Nat.le_of_ble_eq_true rfl) ⟨by rw [hR]; exact Nat.le_of_ble_eq_true rfl, by rw [hR]; exact Nat.le_of_ble_eq_true rfl⟩ ⟨by rw [hR]; show 601024 - c.bc + c.bc ≤ 601024; omega, by rw [hR]; show 7293034 - c.bs + c.bs ≤ 7293034; omega⟩ d_La_law_316 (fun A9 hφ => ?_)
    refine jr_widen (cs' := 601024 - c9.bc) (sl' := 7293034 - c9.bs) (by have := hφ.1; show 601024 - c.bc + (c.bc - c9.bc) ≤ 601024 - c9.bc; omega) (by have := hφ.2; show 7293034 - c.bs + (c.bs - c9.bs) ≤ 7293034 - c9.bs; omega) ?_
    show jw X (601024 - c9.bc) (7293034 - c9.bs) ((wtL D g A9 c9 S9 ++ [al D 2 o 1 (fun j => if j = 0 then ll (w32 r) else fo j)]) ++ moL D gm M) [(4, .int (ii (6 * (k : Int)))), (0, .ref b), (1, .ref (g 0)), (2, .ref (gm 0)), (3, .ref o)] 319 [.int (ii 0)]
    refine jr_istore [(5, .int (ii 0)), (4, .int (ii (6 * (k : Int)))), (0, .ref b), (1, .ref (g 0)), (2, .ref (gm 0)), (3, .ref o)] ok d_La_law_319 (by rw [hN]; decide) rfl ?_
    refine jr_aload_n ok 4 d_La_law_321 rfl rfl ?_
    refine jr_aload_n ok 2 d_La_law_322 rfl rfl ?_
    refine jr_iload ok 1 d_La_law_323 rfl ?_
    refine jr_iconst ok d_La_law_325 ?_
    refine jr_iadd ok d_La_law_326 ?_
    refine jr_sld ok hX hbl hbA hn (by omega) (by omega) d_La_law_327 ?_
    refine jr_swapL ?_
    refine jq_cV1 ok hR m_La_99 (jc_frame (c_Mo_fault (jx_l X) D gm M ((xs (6 * (k : Int) + 1).toNat).toInt) r' M1 e2) (wtL D g A9 c9 S9 ++ [al D 2 o 1 (fun j => if j = 0 then ll (w32 r) else fo j)])) (sg_atk 0 rfl) rfl rfl rfl (Nat.le_of_ble_eq_true rfl) ⟨Nat.le_of_ble_eq_true rfl, Nat.le_of_ble_eq_true rfl⟩ ⟨Nat.sub_le _ _, Nat.sub_le _ _⟩ d_La_law_328 ?_
    show jw X (601024 - c9.bc) (7293034 - c9.bs) (moL D gm M1 ++ (wtL D g A9 c9 S9 ++ [al D 2 o 1 (fun j => if j = 0 then ll (w32 r) else fo j)])) [(5, .int (ii 0)), (4, .int (ii (6 * (k : Int)))), (0, .ref b), (1, .ref (g 0)), (2, .ref (gm 0)), (3, .ref o)] 331 [.int (ii r')]
    refine jr_swapL ?_
    refine jr_istore [(6, .int (ii r')), (5, .int (ii 0)), (4, .int (ii (6 * (k : Int)))), (0, .ref b), (1, .ref (g 0)), (2, .ref (gm 0)), (3, .ref o)] ok d_La_law_331 (by rw [hN]; decide) rfl ?_
    refine jr_aload_n ok 5 d_La_law_333 rfl rfl ?_
    refine jr_swapL ?_
    refine jq_cV1 ok hR m_La_85 (jc_frame (c_Mo_thrown (jx_l X) D gm M1 t' M2 e3) (wtL D g A9 c9 S9 ++ [al D 2 o 1 (fun j => if j = 0 then ll (w32 r) else fo j)])) (sg_atk 0 rfl) rfl rfl rfl (Nat.le_of_ble_eq_true rfl) ⟨Nat.le_of_ble_eq_true rfl, Nat.le_of_ble_eq_true rfl⟩ ⟨Nat.sub_le _ _, Nat.sub_le _ _⟩ d_La_law_334 ?_
    show jw X (601024 - c9.bc) (7293034 - c9.bs) (moL D gm M2 ++ (wtL D g A9 c9 S9 ++ [al D 2 o 1 (fun j => if j = 0 then ll (w32 r) else fo j)])) [(6, .int (ii r')), (5, .int (ii 0)), (4, .int (ii (6 * (k : Int)))), (0, .ref b), (1, .ref (g 0)), (2, .ref (gm 0)), (3, .ref o)] 337 [.int (ii t')]
    refine jr_swapL ?_
    refine jr_iload ok 1 d_La_law_337 rfl ?_
    refine jr_wicmp_eq 344 ok ht' (show w32 0 = 0 by decide) d_La_law_339 (by decide) (fun _ => ?_) (fun z => absurd rfl z)
    refine jr_iload ok 1 d_La_law_344 rfl ?_
    refine jr_wif_ne 361 ok (show w32 0 = 0 by decide) d_La_law_346 (by decide) (fun z => absurd rfl z) (fun _ => ?_)
    refine jr_aload_n ok 6 d_La_law_349 rfl rfl ?_
    refine jr_iconst ok d_La_law_350 ?_
    refine jr_lald ok 24 rfl rfl (by decide) (by decide) d_La_law_351 ?_
    show jw X (601024 - c9.bc) (7293034 - c9.bs) ((wtL D g A9 c9 S9 ++ [al D 2 o 1 (fun j => if j = 0 then ll (w32 r) else fo j)]) ++ moL D gm M2) [(6, .int (ii r')), (5, .int (ii 0)), (4, .int (ii (6 * (k : Int)))), (0, .ref b), (1, .ref (g 0)), (2, .ref (gm 0)), (3, .ref o)] 352 [.long (ll (w32 r))]
    refine jr_iload ok 0 d_La_law_352 rfl ?_
    refine jr_wi2l ok rfl d_La_law_354 ?_
    refine jr_lif_eq 361 ok rfl (show (ll (w32 r')).toInt = (ll (w32 r)).toInt by rw [hr]) d_La_law_355 d_La_law_356 (by decide) (fun _ => ?_) (fun z => absurd rfl z)
    refine jr_goto 1398 ok d_La_law_361 (by decide) ?_
    exact jr_lv [2, 3, 4, 5, 6] rfl (next A9 c9 S9 (fun j => if j = 0 then ll (w32 r) else fo j) M2 ⟨Nat.le_trans hφ.1 hcc.1, Nat.le_trans hφ.2 hcc.2⟩ hI9)
  · skip
    refine jr_aload_n ok 2 d_La_law_308 rfl rfl ?_
    refine jr_aload_n ok 1 d_La_law_309 rfl rfl ?_
    refine jr_iload ok 0 d_La_law_310 rfl ?_
    refine jr_iconst ok d_La_law_312 ?_
    refine jr_iadd ok d_La_law_313 ?_
    refine jr_sld ok hX hbl hbA hn (by omega) (by omega) d_La_law_314 ?_
    refine jr_aload_n ok 4 d_La_law_315 rfl rfl ?_
    refine jh_callS ok hI hTT hNN m_La_96 (jgH_frame (h_La_fault (jx_l X) hnt D g A c S o fo ((xs (6 * (k : Int) + 1).toNat).toInt) 3 r c9 S9 1 fo e1 (Or.inr ⟨rfl, rfl, rfl⟩)) (moL D gm M)) (fun _ => rfl) rfl rfl (Nat.le_of_ble_eq_true rfl) ⟨by rw [hR]; exact Nat.le_of_ble_eq_true rfl, by rw [hR]; exact Nat.le_of_ble_eq_true rfl⟩ ⟨by rw [hR]; show 601024 - c.bc + c.bc ≤ 601024; omega, by rw [hR]; show 7293034 - c.bs + c.bs ≤ 7293034; omega⟩ d_La_law_316 (fun A9 hφ => ?_)
    refine jr_widen (cs' := 601024 - c9.bc) (sl' := 7293034 - c9.bs) (by have := hφ.1; show 601024 - c.bc + (c.bc - c9.bc) ≤ 601024 - c9.bc; omega) (by have := hφ.2; show 7293034 - c.bs + (c.bs - c9.bs) ≤ 7293034 - c9.bs; omega) ?_
    show jw X (601024 - c9.bc) (7293034 - c9.bs) ((wtL D g A9 c9 S9 ++ [al D 2 o 1 fo]) ++ moL D gm M) [(4, .int (ii (6 * (k : Int)))), (0, .ref b), (1, .ref (g 0)), (2, .ref (gm 0)), (3, .ref o)] 319 [.int (ii 1)]
    refine jr_istore [(5, .int (ii 1)), (4, .int (ii (6 * (k : Int)))), (0, .ref b), (1, .ref (g 0)), (2, .ref (gm 0)), (3, .ref o)] ok d_La_law_319 (by rw [hN]; decide) rfl ?_
    refine jr_aload_n ok 4 d_La_law_321 rfl rfl ?_
    refine jr_aload_n ok 2 d_La_law_322 rfl rfl ?_
    refine jr_iload ok 1 d_La_law_323 rfl ?_
    refine jr_iconst ok d_La_law_325 ?_
    refine jr_iadd ok d_La_law_326 ?_
    refine jr_sld ok hX hbl hbA hn (by omega) (by omega) d_La_law_327 ?_
    refine jr_swapL ?_
    refine jq_cV1 ok hR m_La_99 (jc_frame (c_Mo_fault (jx_l X) D gm M ((xs (6 * (k : Int) + 1).toNat).toInt) r' M1 e2) (wtL D g A9 c9 S9 ++ [al D 2 o 1 fo])) (sg_atk 0 rfl) rfl rfl rfl (Nat.le_of_ble_eq_true rfl) ⟨Nat.le_of_ble_eq_true rfl, Nat.le_of_ble_eq_true rfl⟩ ⟨Nat.sub_le _ _, Nat.sub_le _ _⟩ d_La_law_328 ?_
    show jw X (601024 - c9.bc) (7293034 - c9.bs) (moL D gm M1 ++ (wtL D g A9 c9 S9 ++ [al D 2 o 1 fo])) [(5, .int (ii 1)), (4, .int (ii (6 * (k : Int)))), (0, .ref b), (1, .ref (g 0)), (2, .ref (gm 0)), (3, .ref o)] 331 [.int (ii r')]
    refine jr_swapL ?_
    refine jr_istore [(6, .int (ii r')), (5, .int (ii 1)), (4, .int (ii (6 * (k : Int)))), (0, .ref b), (1, .ref (g 0)), (2, .ref (gm 0)), (3, .ref o)] ok d_La_law_331 (by rw [hN]; decide) rfl ?_
    refine jr_aload_n ok 5 d_La_law_333 rfl rfl ?_
    refine jr_swapL ?_
    refine jq_cV1 ok hR m_La_85 (jc_frame (c_Mo_thrown (jx_l X) D gm M1 t' M2 e3) (wtL D g A9 c9 S9 ++ [al D 2 o 1 fo])) (sg_atk 0 rfl) rfl rfl rfl (Nat.le_of_ble_eq_true rfl) ⟨Nat.le_of_ble_eq_true rfl, Nat.le_of_ble_eq_true rfl⟩ ⟨Nat.sub_le _ _, Nat.sub_le _ _⟩ d_La_law_334 ?_
    show jw X (601024 - c9.bc) (7293034 - c9.bs) (moL D gm M2 ++ (wtL D g A9 c9 S9 ++ [al D 2 o 1 fo])) [(6, .int (ii r')), (5, .int (ii 1)), (4, .int (ii (6 * (k : Int)))), (0, .ref b), (1, .ref (g 0)), (2, .ref (gm 0)), (3, .ref o)] 337 [.int (ii t')]
    refine jr_swapL ?_
    refine jr_iload ok 1 d_La_law_337 rfl ?_
    refine jr_wicmp_eq 344 ok ht' (show w32 1 = 1 by decide) d_La_law_339 (by decide) (fun _ => ?_) (fun z => absurd rfl z)
    refine jr_iload ok 1 d_La_law_344 rfl ?_
    refine jr_wif_ne 361 ok (show w32 1 = 1 by decide) d_La_law_346 (by decide) (fun _ => ?_) (fun z => absurd z (by decide))
    refine jr_goto 1398 ok d_La_law_361 (by decide) ?_
    exact jr_lv [2, 3, 4, 5, 6] rfl (next A9 c9 S9 fo M2 ⟨Nat.le_trans hφ.1 hcc.1, Nat.le_trans hφ.2 hcc.2⟩ hI9)

set_option maxHeartbeats 4000000 in
set_option maxRecDepth 100000 in
theorem lc_letter {I : Nat → CW → WS → MS → Prop} (st : st_letter I) {X : jx_T} {D : jd_T} {b n o : Nat} {xs : Nat → Int32} {g gm : Nat → Nat} (W : lawW X D b n xs) {k : Nat} {A : AW} {c : CW} {S : WS} {fo : Int → Int64} {M : MS} (hk : k < 512) (hkn : 6 * (k : Int) + 6 ≤ (n : Int)) (hcc : c.bc ≤ 601024 ∧ c.bs ≤ 7293034) (hI0 : I k c S M) (next : ∀ (A : AW) (c : CW) (S : WS) (fo : Int → Int64) (M : MS), (c.bc ≤ 601024 ∧ c.bs ≤ 7293034) → I (k + 1) c S M → jw X (601024 - c.bc) (7293034 - c.bs) ((wtL D g A c S ++ [al D 2 o 1 fo]) ++ moL D gm M) [(4, .int (ii (6 * (k : Int)))), (0, .ref b), (1, .ref (g 0)), (2, .ref (gm 0)), (3, .ref o)] 1398 []) : jw X (601024 - c.bc) (7293034 - c.bs) ((wtL D g A c S ++ [al D 2 o 1 fo]) ++ moL D gm M) [(4, .int (ii (6 * (k : Int)))), (0, .ref b), (1, .ref (g 0)), (2, .ref (gm 0)), (3, .ref o)] 364 [] := by
  obtain ⟨ok, hI, hTT, hNN, hnt, hR, hN, hX, hbl, hbA, hn0⟩ := W
  have hn : n ≤ 2147483647 := by omega
  obtain ⟨t, r, c9, S9, r', M1, t', M2, e1, e2, e3, hc, hI9⟩ := st k c S M ((xs (6 * (k : Int) + 1).toNat).toInt) ((xs (6 * (k : Int) + 2).toNat).toInt) hk hI0 (xs_R _) (xs_R _)
  rcases hc with ⟨rfl, ht', hr⟩ | ⟨rfl, ht'⟩
  · skip
    refine jr_aload_n ok 2 d_La_law_364 rfl rfl ?_
    refine jr_aload_n ok 1 d_La_law_365 rfl rfl ?_
    refine jr_iload ok 0 d_La_law_366 rfl ?_
    refine jr_iconst ok d_La_law_368 ?_
    refine jr_iadd ok d_La_law_369 ?_
    refine jr_sld ok hX hbl hbA hn (by omega) (by omega) d_La_law_370 ?_
    refine jr_aload_n ok 1 d_La_law_371 rfl rfl ?_
    refine jr_iload ok 0 d_La_law_372 rfl ?_
    refine jr_iconst ok d_La_law_374 ?_
    refine jr_iadd ok d_La_law_375 ?_
    refine jr_sld ok hX hbl hbA hn (by omega) (by omega) d_La_law_376 ?_
    refine jr_aload_n ok 4 d_La_law_377 rfl rfl ?_
    refine jh_callS ok hI hTT hNN m_La_100 (jgH_frame (h_La_letter (jx_l X) hnt D g A c S o fo ((xs (6 * (k : Int) + 1).toNat).toInt) ((xs (6 * (k : Int) + 2).toNat).toInt) 0 r c9 S9 0 (fun j => if j = 0 then ll (w32 r) else fo j) e1 (Or.inl ⟨rfl, rfl, rfl⟩)) (moL D gm M)) (fun _ => rfl) rfl rfl (Nat.le_of_ble_eq_true rfl) ⟨by rw [hR]; exact Nat.le_of_ble_eq_true rfl, by rw [hR]; exact Nat.le_of_ble_eq_true rfl⟩ ⟨by rw [hR]; show 601024 - c.bc + c.bc ≤ 601024; omega, by rw [hR]; show 7293034 - c.bs + c.bs ≤ 7293034; omega⟩ d_La_law_378 (fun A9 hφ => ?_)
    refine jr_widen (cs' := 601024 - c9.bc) (sl' := 7293034 - c9.bs) (by have := hφ.1; show 601024 - c.bc + (c.bc - c9.bc) ≤ 601024 - c9.bc; omega) (by have := hφ.2; show 7293034 - c.bs + (c.bs - c9.bs) ≤ 7293034 - c9.bs; omega) ?_
    show jw X (601024 - c9.bc) (7293034 - c9.bs) ((wtL D g A9 c9 S9 ++ [al D 2 o 1 (fun j => if j = 0 then ll (w32 r) else fo j)]) ++ moL D gm M) [(4, .int (ii (6 * (k : Int)))), (0, .ref b), (1, .ref (g 0)), (2, .ref (gm 0)), (3, .ref o)] 381 [.int (ii 0)]
    refine jr_istore [(5, .int (ii 0)), (4, .int (ii (6 * (k : Int)))), (0, .ref b), (1, .ref (g 0)), (2, .ref (gm 0)), (3, .ref o)] ok d_La_law_381 (by rw [hN]; decide) rfl ?_
    refine jr_aload_n ok 4 d_La_law_383 rfl rfl ?_
    refine jr_aload_n ok 2 d_La_law_384 rfl rfl ?_
    refine jr_iload ok 1 d_La_law_385 rfl ?_
    refine jr_iconst ok d_La_law_387 ?_
    refine jr_iadd ok d_La_law_388 ?_
    refine jr_sld ok hX hbl hbA hn (by omega) (by omega) d_La_law_389 ?_
    refine jr_aload_n ok 2 d_La_law_390 rfl rfl ?_
    refine jr_iload ok 1 d_La_law_391 rfl ?_
    refine jr_iconst ok d_La_law_393 ?_
    refine jr_iadd ok d_La_law_394 ?_
    refine jr_sld ok hX hbl hbA hn (by omega) (by omega) d_La_law_395 ?_
    refine jr_swapL ?_
    refine jq_cV1 ok hR m_La_103 (jc_frame (c_Mo_letter (jx_l X) D gm M ((xs (6 * (k : Int) + 1).toNat).toInt) ((xs (6 * (k : Int) + 2).toNat).toInt) r' M1 e2) (wtL D g A9 c9 S9 ++ [al D 2 o 1 (fun j => if j = 0 then ll (w32 r) else fo j)])) (sg_atk 0 rfl) rfl rfl rfl (Nat.le_of_ble_eq_true rfl) ⟨Nat.le_of_ble_eq_true rfl, Nat.le_of_ble_eq_true rfl⟩ ⟨Nat.sub_le _ _, Nat.sub_le _ _⟩ d_La_law_396 ?_
    show jw X (601024 - c9.bc) (7293034 - c9.bs) (moL D gm M1 ++ (wtL D g A9 c9 S9 ++ [al D 2 o 1 (fun j => if j = 0 then ll (w32 r) else fo j)])) [(5, .int (ii 0)), (4, .int (ii (6 * (k : Int)))), (0, .ref b), (1, .ref (g 0)), (2, .ref (gm 0)), (3, .ref o)] 399 [.int (ii r')]
    refine jr_swapL ?_
    refine jr_istore [(6, .int (ii r')), (5, .int (ii 0)), (4, .int (ii (6 * (k : Int)))), (0, .ref b), (1, .ref (g 0)), (2, .ref (gm 0)), (3, .ref o)] ok d_La_law_399 (by rw [hN]; decide) rfl ?_
    refine jr_aload_n ok 5 d_La_law_401 rfl rfl ?_
    refine jr_swapL ?_
    refine jq_cV1 ok hR m_La_85 (jc_frame (c_Mo_thrown (jx_l X) D gm M1 t' M2 e3) (wtL D g A9 c9 S9 ++ [al D 2 o 1 (fun j => if j = 0 then ll (w32 r) else fo j)])) (sg_atk 0 rfl) rfl rfl rfl (Nat.le_of_ble_eq_true rfl) ⟨Nat.le_of_ble_eq_true rfl, Nat.le_of_ble_eq_true rfl⟩ ⟨Nat.sub_le _ _, Nat.sub_le _ _⟩ d_La_law_402 ?_
    show jw X (601024 - c9.bc) (7293034 - c9.bs) (moL D gm M2 ++ (wtL D g A9 c9 S9 ++ [al D 2 o 1 (fun j => if j = 0 then ll (w32 r) else fo j)])) [(6, .int (ii r')), (5, .int (ii 0)), (4, .int (ii (6 * (k : Int)))), (0, .ref b), (1, .ref (g 0)), (2, .ref (gm 0)), (3, .ref o)] 405 [.int (ii t')]
    refine jr_swapL ?_
    refine jr_iload ok 1 d_La_law_405 rfl ?_
    refine jr_wicmp_eq 412 ok ht' (show w32 0 = 0 by decide) d_La_law_407 (by decide) (fun _ => ?_) (fun z => absurd rfl z)
    refine jr_iload ok 1 d_La_law_412 rfl ?_
    refine jr_wif_ne 429 ok (show w32 0 = 0 by decide) d_La_law_414 (by decide) (fun z => absurd rfl z) (fun _ => ?_)
    refine jr_aload_n ok 6 d_La_law_417 rfl rfl ?_
    refine jr_iconst ok d_La_law_418 ?_
    refine jr_lald ok 24 rfl rfl (by decide) (by decide) d_La_law_419 ?_
    show jw X (601024 - c9.bc) (7293034 - c9.bs) ((wtL D g A9 c9 S9 ++ [al D 2 o 1 (fun j => if j = 0 then ll (w32 r) else fo j)]) ++ moL D gm M2) [(6, .int (ii r')), (5, .int (ii 0)), (4, .int (ii (6 * (k : Int)))), (0, .ref b), (1, .ref (g 0)), (2, .ref (gm 0)), (3, .ref o)] 420 [.long (ll (w32 r))]
    refine jr_iload ok 0 d_La_law_420 rfl ?_
    refine jr_wi2l ok rfl d_La_law_422 ?_
    refine jr_lif_eq 429 ok rfl (show (ll (w32 r')).toInt = (ll (w32 r)).toInt by rw [hr]) d_La_law_423 d_La_law_424 (by decide) (fun _ => ?_) (fun z => absurd rfl z)
    refine jr_goto 1398 ok d_La_law_429 (by decide) ?_
    exact jr_lv [2, 3, 4, 5, 6] rfl (next A9 c9 S9 (fun j => if j = 0 then ll (w32 r) else fo j) M2 ⟨Nat.le_trans hφ.1 hcc.1, Nat.le_trans hφ.2 hcc.2⟩ hI9)
  · skip
    refine jr_aload_n ok 2 d_La_law_364 rfl rfl ?_
    refine jr_aload_n ok 1 d_La_law_365 rfl rfl ?_
    refine jr_iload ok 0 d_La_law_366 rfl ?_
    refine jr_iconst ok d_La_law_368 ?_
    refine jr_iadd ok d_La_law_369 ?_
    refine jr_sld ok hX hbl hbA hn (by omega) (by omega) d_La_law_370 ?_
    refine jr_aload_n ok 1 d_La_law_371 rfl rfl ?_
    refine jr_iload ok 0 d_La_law_372 rfl ?_
    refine jr_iconst ok d_La_law_374 ?_
    refine jr_iadd ok d_La_law_375 ?_
    refine jr_sld ok hX hbl hbA hn (by omega) (by omega) d_La_law_376 ?_
    refine jr_aload_n ok 4 d_La_law_377 rfl rfl ?_
    refine jh_callS ok hI hTT hNN m_La_100 (jgH_frame (h_La_letter (jx_l X) hnt D g A c S o fo ((xs (6 * (k : Int) + 1).toNat).toInt) ((xs (6 * (k : Int) + 2).toNat).toInt) 3 r c9 S9 1 fo e1 (Or.inr ⟨rfl, rfl, rfl⟩)) (moL D gm M)) (fun _ => rfl) rfl rfl (Nat.le_of_ble_eq_true rfl) ⟨by rw [hR]; exact Nat.le_of_ble_eq_true rfl, by rw [hR]; exact Nat.le_of_ble_eq_true rfl⟩ ⟨by rw [hR]; show 601024 - c.bc + c.bc ≤ 601024; omega, by rw [hR]; show 7293034 - c.bs + c.bs ≤ 7293034; omega⟩ d_La_law_378 (fun A9 hφ => ?_)
    refine jr_widen (cs' := 601024 - c9.bc) (sl' := 7293034 - c9.bs) (by have := hφ.1; show 601024 - c.bc + (c.bc - c9.bc) ≤ 601024 - c9.bc; omega) (by have := hφ.2; show 7293034 - c.bs + (c.bs - c9.bs) ≤ 7293034 - c9.bs; omega) ?_
    show jw X (601024 - c9.bc) (7293034 - c9.bs) ((wtL D g A9 c9 S9 ++ [al D 2 o 1 fo]) ++ moL D gm M) [(4, .int (ii (6 * (k : Int)))), (0, .ref b), (1, .ref (g 0)), (2, .ref (gm 0)), (3, .ref o)] 381 [.int (ii 1)]
    refine jr_istore [(5, .int (ii 1)), (4, .int (ii (6 * (k : Int)))), (0, .ref b), (1, .ref (g 0)), (2, .ref (gm 0)), (3, .ref o)] ok d_La_law_381 (by rw [hN]; decide) rfl ?_
    refine jr_aload_n ok 4 d_La_law_383 rfl rfl ?_
    refine jr_aload_n ok 2 d_La_law_384 rfl rfl ?_
    refine jr_iload ok 1 d_La_law_385 rfl ?_
    refine jr_iconst ok d_La_law_387 ?_
    refine jr_iadd ok d_La_law_388 ?_
    refine jr_sld ok hX hbl hbA hn (by omega) (by omega) d_La_law_389 ?_
    refine jr_aload_n ok 2 d_La_law_390 rfl rfl ?_
    refine jr_iload ok 1 d_La_law_391 rfl ?_
    refine jr_iconst ok d_La_law_393 ?_
    refine jr_iadd ok d_La_law_394 ?_
    refine jr_sld ok hX hbl hbA hn (by omega) (by omega) d_La_law_395 ?_
    refine jr_swapL ?_
    refine jq_cV1 ok hR m_La_103 (jc_frame (c_Mo_letter (jx_l X) D gm M ((xs (6 * (k : Int) + 1).toNat).toInt) ((xs (6 * (k : Int) + 2).toNat).toInt) r' M1 e2) (wtL D g A9 c9 S9 ++ [al D 2 o 1 fo])) (sg_atk 0 rfl) rfl rfl rfl (Nat.le_of_ble_eq_true rfl) ⟨Nat.le_of_ble_eq_true rfl, Nat.le_of_ble_eq_true rfl⟩ ⟨Nat.sub_le _ _, Nat.sub_le _ _⟩ d_La_law_396 ?_
    show jw X (601024 - c9.bc) (7293034 - c9.bs) (moL D gm M1 ++ (wtL D g A9 c9 S9 ++ [al D 2 o 1 fo])) [(5, .int (ii 1)), (4, .int (ii (6 * (k : Int)))), (0, .ref b), (1, .ref (g 0)), (2, .ref (gm 0)), (3, .ref o)] 399 [.int (ii r')]
    refine jr_swapL ?_
    refine jr_istore [(6, .int (ii r')), (5, .int (ii 1)), (4, .int (ii (6 * (k : Int)))), (0, .ref b), (1, .ref (g 0)), (2, .ref (gm 0)), (3, .ref o)] ok d_La_law_399 (by rw [hN]; decide) rfl ?_
    refine jr_aload_n ok 5 d_La_law_401 rfl rfl ?_
    refine jr_swapL ?_
    refine jq_cV1 ok hR m_La_85 (jc_frame (c_Mo_thrown (jx_l X) D gm M1 t' M2 e3) (wtL D g A9 c9 S9 ++ [al D 2 o 1 fo])) (sg_atk 0 rfl) rfl rfl rfl (Nat.le_of_ble_eq_true rfl) ⟨Nat.le_of_ble_eq_true rfl, Nat.le_of_ble_eq_true rfl⟩ ⟨Nat.sub_le _ _, Nat.sub_le _ _⟩ d_La_law_402 ?_
    show jw X (601024 - c9.bc) (7293034 - c9.bs) (moL D gm M2 ++ (wtL D g A9 c9 S9 ++ [al D 2 o 1 fo])) [(6, .int (ii r')), (5, .int (ii 1)), (4, .int (ii (6 * (k : Int)))), (0, .ref b), (1, .ref (g 0)), (2, .ref (gm 0)), (3, .ref o)] 405 [.int (ii t')]
    refine jr_swapL ?_
    refine jr_iload ok 1 d_La_law_405 rfl ?_
    refine jr_wicmp_eq 412 ok ht' (show w32 1 = 1 by decide) d_La_law_407 (by decide) (fun _ => ?_) (fun z => absurd rfl z)
    refine jr_iload ok 1 d_La_law_412 rfl ?_
    refine jr_wif_ne 429 ok (show w32 1 = 1 by decide) d_La_law_414 (by decide) (fun _ => ?_) (fun z => absurd z (by decide))
    refine jr_goto 1398 ok d_La_law_429 (by decide) ?_
    exact jr_lv [2, 3, 4, 5, 6] rfl (next A9 c9 S9 fo M2 ⟨Nat.le_trans hφ.1 hcc.1, Nat.le_trans hφ.2 hcc.2⟩ hI9)

set_option maxHeartbeats 4000000 in
set_option maxRecDepth 100000 in
theorem lc_append {I : Nat → CW → WS → MS → Prop} (st : st_append I) {X : jx_T} {D : jd_T} {b n o : Nat} {xs : Nat → Int32} {g gm : Nat → Nat} (W : lawW X D b n xs) {k : Nat} {A : AW} {c : CW} {S : WS} {fo : Int → Int64} {M : MS} (hk : k < 512) (hkn : 6 * (k : Int) + 6 ≤ (n : Int)) (hcc : c.bc ≤ 601024 ∧ c.bs ≤ 7293034) (hI0 : I k c S M) (next : ∀ (A : AW) (c : CW) (S : WS) (fo : Int → Int64) (M : MS), (c.bc ≤ 601024 ∧ c.bs ≤ 7293034) → I (k + 1) c S M → jw X (601024 - c.bc) (7293034 - c.bs) ((wtL D g A c S ++ [al D 2 o 1 fo]) ++ moL D gm M) [(4, .int (ii (6 * (k : Int)))), (0, .ref b), (1, .ref (g 0)), (2, .ref (gm 0)), (3, .ref o)] 1398 []) : jw X (601024 - c.bc) (7293034 - c.bs) ((wtL D g A c S ++ [al D 2 o 1 fo]) ++ moL D gm M) [(4, .int (ii (6 * (k : Int)))), (0, .ref b), (1, .ref (g 0)), (2, .ref (gm 0)), (3, .ref o)] 432 [] := by
  obtain ⟨ok, hI, hTT, hNN, hnt, hR, hN, hX, hbl, hbA, hn0⟩ := W
  have hn : n ≤ 2147483647 := by omega
  obtain ⟨t, r, c9, S9, r', M1, t', M2, e1, e2, e3, hc, hI9⟩ := st k c S M ((xs (6 * (k : Int) + 1).toNat).toInt) (lx ((xs (6 * (k : Int) + 2).toNat).toInt) ((xs (6 * (k : Int) + 3).toNat).toInt)) (lx ((xs (6 * (k : Int) + 4).toNat).toInt) ((xs (6 * (k : Int) + 5).toNat).toInt)) hk hI0 (xs_R _)
  rcases hc with ⟨rfl, ht', hr⟩ | ⟨rfl, ht'⟩ | ⟨rfl, ht'⟩ | ⟨rfl, ht'⟩
  · skip
    refine jr_aload_n ok 2 d_La_law_432 rfl rfl ?_
    refine jr_aload_n ok 1 d_La_law_433 rfl rfl ?_
    refine jr_iload ok 0 d_La_law_434 rfl ?_
    refine jr_iconst ok d_La_law_436 ?_
    refine jr_iadd ok d_La_law_437 ?_
    refine jr_sld ok hX hbl hbA hn (by omega) (by omega) d_La_law_438 ?_
    refine jr_aload_n ok 1 d_La_law_439 rfl rfl ?_
    refine jr_iload ok 0 d_La_law_440 rfl ?_
    refine jr_iconst ok d_La_law_442 ?_
    refine jr_iadd ok d_La_law_443 ?_
    refine jr_sld ok hX hbl hbA hn (by omega) (by omega) d_La_law_444 ?_
    refine jr_wi2l ok rfl d_La_law_445 ?_
    refine jr_bipush ok d_La_law_446 (by decide +kernel) ?_
    refine jr_lshlx ok d_La_law_448 ?_
    refine jr_aload_n ok 1 d_La_law_449 rfl rfl ?_
    refine jr_iload ok 0 d_La_law_450 rfl ?_
    refine jr_iconst ok d_La_law_452 ?_
    refine jr_iadd ok d_La_law_453 ?_
    refine jr_sld ok hX hbl hbA hn (by omega) (by omega) d_La_law_454 ?_
    refine jr_wi2l ok rfl d_La_law_455 ?_
    refine jr_ldc2 (z := 4294967295) ok w_1807 (by decide +kernel) d_La_law_456 ?_
    refine jr_landx ok d_La_law_459 ?_
    refine jr_lorx ok d_La_law_460 ?_
    refine jr_aload_n ok 1 d_La_law_461 rfl rfl ?_
    refine jr_iload ok 0 d_La_law_462 rfl ?_
    refine jr_iconst ok d_La_law_464 ?_
    refine jr_iadd ok d_La_law_465 ?_
    refine jr_sld ok hX hbl hbA hn (by omega) (by omega) d_La_law_466 ?_
    refine jr_wi2l ok rfl d_La_law_467 ?_
    refine jr_bipush ok d_La_law_468 (by decide +kernel) ?_
    refine jr_lshlx ok d_La_law_470 ?_
    refine jr_aload_n ok 1 d_La_law_471 rfl rfl ?_
    refine jr_iload ok 0 d_La_law_472 rfl ?_
    refine jr_iconst ok d_La_law_474 ?_
    refine jr_iadd ok d_La_law_475 ?_
    refine jr_sld ok hX hbl hbA hn (by omega) (by omega) d_La_law_476 ?_
    refine jr_wi2l ok rfl d_La_law_477 ?_
    refine jr_ldc2 (z := 4294967295) ok w_1807 (by decide +kernel) d_La_law_478 ?_
    refine jr_landx ok d_La_law_481 ?_
    refine jr_lorx ok d_La_law_482 ?_
    refine jr_aload_n ok 4 d_La_law_483 rfl rfl ?_
    refine jh_callS ok hI hTT hNN m_La_106 (jgH_frame (h_La_append (jx_l X) hnt D g A c S o fo ((xs (6 * (k : Int) + 1).toNat).toInt) (lx ((xs (6 * (k : Int) + 2).toNat).toInt) ((xs (6 * (k : Int) + 3).toNat).toInt)) (lx ((xs (6 * (k : Int) + 4).toNat).toInt) ((xs (6 * (k : Int) + 5).toNat).toInt)) 0 r c9 S9 0 (fun j => if j = 0 then ll (w32 r) else fo j) e1 (Or.inl ⟨rfl, rfl, rfl⟩)) (moL D gm M)) (fun _ => rfl) rfl rfl (Nat.le_of_ble_eq_true rfl) ⟨by rw [hR]; exact Nat.le_of_ble_eq_true rfl, by rw [hR]; exact Nat.le_of_ble_eq_true rfl⟩ ⟨by rw [hR]; show 601024 - c.bc + c.bc ≤ 601024; omega, by rw [hR]; show 7293034 - c.bs + c.bs ≤ 7293034; omega⟩ d_La_law_484 (fun A9 hφ => ?_)
    refine jr_widen (cs' := 601024 - c9.bc) (sl' := 7293034 - c9.bs) (by have := hφ.1; show 601024 - c.bc + (c.bc - c9.bc) ≤ 601024 - c9.bc; omega) (by have := hφ.2; show 7293034 - c.bs + (c.bs - c9.bs) ≤ 7293034 - c9.bs; omega) ?_
    show jw X (601024 - c9.bc) (7293034 - c9.bs) ((wtL D g A9 c9 S9 ++ [al D 2 o 1 (fun j => if j = 0 then ll (w32 r) else fo j)]) ++ moL D gm M) [(4, .int (ii (6 * (k : Int)))), (0, .ref b), (1, .ref (g 0)), (2, .ref (gm 0)), (3, .ref o)] 487 [.int (ii 0)]
    refine jr_istore [(5, .int (ii 0)), (4, .int (ii (6 * (k : Int)))), (0, .ref b), (1, .ref (g 0)), (2, .ref (gm 0)), (3, .ref o)] ok d_La_law_487 (by rw [hN]; decide) rfl ?_
    refine jr_aload_n ok 4 d_La_law_489 rfl rfl ?_
    refine jr_aload_n ok 2 d_La_law_490 rfl rfl ?_
    refine jr_iload ok 1 d_La_law_491 rfl ?_
    refine jr_iconst ok d_La_law_493 ?_
    refine jr_iadd ok d_La_law_494 ?_
    refine jr_sld ok hX hbl hbA hn (by omega) (by omega) d_La_law_495 ?_
    refine jr_aload_n ok 2 d_La_law_496 rfl rfl ?_
    refine jr_iload ok 1 d_La_law_497 rfl ?_
    refine jr_iconst ok d_La_law_499 ?_
    refine jr_iadd ok d_La_law_500 ?_
    refine jr_sld ok hX hbl hbA hn (by omega) (by omega) d_La_law_501 ?_
    refine jr_wi2l ok rfl d_La_law_502 ?_
    refine jr_bipush ok d_La_law_503 (by decide +kernel) ?_
    refine jr_lshlx ok d_La_law_505 ?_
    refine jr_aload_n ok 2 d_La_law_506 rfl rfl ?_
    refine jr_iload ok 1 d_La_law_507 rfl ?_
    refine jr_iconst ok d_La_law_509 ?_
    refine jr_iadd ok d_La_law_510 ?_
    refine jr_sld ok hX hbl hbA hn (by omega) (by omega) d_La_law_511 ?_
    refine jr_wi2l ok rfl d_La_law_512 ?_
    refine jr_ldc2 (z := 4294967295) ok w_1807 (by decide +kernel) d_La_law_513 ?_
    refine jr_landx ok d_La_law_516 ?_
    refine jr_lorx ok d_La_law_517 ?_
    refine jr_aload_n ok 2 d_La_law_518 rfl rfl ?_
    refine jr_iload ok 1 d_La_law_519 rfl ?_
    refine jr_iconst ok d_La_law_521 ?_
    refine jr_iadd ok d_La_law_522 ?_
    refine jr_sld ok hX hbl hbA hn (by omega) (by omega) d_La_law_523 ?_
    refine jr_wi2l ok rfl d_La_law_524 ?_
    refine jr_bipush ok d_La_law_525 (by decide +kernel) ?_
    refine jr_lshlx ok d_La_law_527 ?_
    refine jr_aload_n ok 2 d_La_law_528 rfl rfl ?_
    refine jr_iload ok 1 d_La_law_529 rfl ?_
    refine jr_iconst ok d_La_law_531 ?_
    refine jr_iadd ok d_La_law_532 ?_
    refine jr_sld ok hX hbl hbA hn (by omega) (by omega) d_La_law_533 ?_
    refine jr_wi2l ok rfl d_La_law_534 ?_
    refine jr_ldc2 (z := 4294967295) ok w_1807 (by decide +kernel) d_La_law_535 ?_
    refine jr_landx ok d_La_law_538 ?_
    refine jr_lorx ok d_La_law_539 ?_
    refine jr_swapL ?_
    refine jq_cV1 ok hR m_La_109 (jc_frame (c_Mo_append (jx_l X) D gm M ((xs (6 * (k : Int) + 1).toNat).toInt) (lx ((xs (6 * (k : Int) + 2).toNat).toInt) ((xs (6 * (k : Int) + 3).toNat).toInt)) (lx ((xs (6 * (k : Int) + 4).toNat).toInt) ((xs (6 * (k : Int) + 5).toNat).toInt)) r' M1 e2) (wtL D g A9 c9 S9 ++ [al D 2 o 1 (fun j => if j = 0 then ll (w32 r) else fo j)])) (sg_atk 0 rfl) rfl rfl rfl (Nat.le_of_ble_eq_true rfl) ⟨Nat.le_of_ble_eq_true rfl, Nat.le_of_ble_eq_true rfl⟩ ⟨Nat.sub_le _ _, Nat.sub_le _ _⟩ d_La_law_540 ?_
    show jw X (601024 - c9.bc) (7293034 - c9.bs) (moL D gm M1 ++ (wtL D g A9 c9 S9 ++ [al D 2 o 1 (fun j => if j = 0 then ll (w32 r) else fo j)])) [(5, .int (ii 0)), (4, .int (ii (6 * (k : Int)))), (0, .ref b), (1, .ref (g 0)), (2, .ref (gm 0)), (3, .ref o)] 543 [.int (ii r')]
    refine jr_swapL ?_
    refine jr_istore [(6, .int (ii r')), (5, .int (ii 0)), (4, .int (ii (6 * (k : Int)))), (0, .ref b), (1, .ref (g 0)), (2, .ref (gm 0)), (3, .ref o)] ok d_La_law_543 (by rw [hN]; decide) rfl ?_
    refine jr_aload_n ok 5 d_La_law_545 rfl rfl ?_
    refine jr_swapL ?_
    refine jq_cV1 ok hR m_La_85 (jc_frame (c_Mo_thrown (jx_l X) D gm M1 t' M2 e3) (wtL D g A9 c9 S9 ++ [al D 2 o 1 (fun j => if j = 0 then ll (w32 r) else fo j)])) (sg_atk 0 rfl) rfl rfl rfl (Nat.le_of_ble_eq_true rfl) ⟨Nat.le_of_ble_eq_true rfl, Nat.le_of_ble_eq_true rfl⟩ ⟨Nat.sub_le _ _, Nat.sub_le _ _⟩ d_La_law_546 ?_
    show jw X (601024 - c9.bc) (7293034 - c9.bs) (moL D gm M2 ++ (wtL D g A9 c9 S9 ++ [al D 2 o 1 (fun j => if j = 0 then ll (w32 r) else fo j)])) [(6, .int (ii r')), (5, .int (ii 0)), (4, .int (ii (6 * (k : Int)))), (0, .ref b), (1, .ref (g 0)), (2, .ref (gm 0)), (3, .ref o)] 549 [.int (ii t')]
    refine jr_swapL ?_
    refine jr_iload ok 1 d_La_law_549 rfl ?_
    refine jr_wicmp_eq 556 ok ht' (show w32 0 = 0 by decide) d_La_law_551 (by decide) (fun _ => ?_) (fun z => absurd rfl z)
    refine jr_iload ok 1 d_La_law_556 rfl ?_
    refine jr_wif_ne 573 ok (show w32 0 = 0 by decide) d_La_law_558 (by decide) (fun z => absurd rfl z) (fun _ => ?_)
    refine jr_aload_n ok 6 d_La_law_561 rfl rfl ?_
    refine jr_iconst ok d_La_law_562 ?_
    refine jr_lald ok 24 rfl rfl (by decide) (by decide) d_La_law_563 ?_
    show jw X (601024 - c9.bc) (7293034 - c9.bs) ((wtL D g A9 c9 S9 ++ [al D 2 o 1 (fun j => if j = 0 then ll (w32 r) else fo j)]) ++ moL D gm M2) [(6, .int (ii r')), (5, .int (ii 0)), (4, .int (ii (6 * (k : Int)))), (0, .ref b), (1, .ref (g 0)), (2, .ref (gm 0)), (3, .ref o)] 564 [.long (ll (w32 r))]
    refine jr_iload ok 0 d_La_law_564 rfl ?_
    refine jr_wi2l ok rfl d_La_law_566 ?_
    refine jr_lif_eq 573 ok rfl (show (ll (w32 r')).toInt = (ll (w32 r)).toInt by rw [hr]) d_La_law_567 d_La_law_568 (by decide) (fun _ => ?_) (fun z => absurd rfl z)
    refine jr_goto 1398 ok d_La_law_573 (by decide) ?_
    exact jr_lv [2, 3, 4, 5, 6] rfl (next A9 c9 S9 (fun j => if j = 0 then ll (w32 r) else fo j) M2 ⟨Nat.le_trans hφ.1 hcc.1, Nat.le_trans hφ.2 hcc.2⟩ hI9)
  · skip
    refine jr_aload_n ok 2 d_La_law_432 rfl rfl ?_
    refine jr_aload_n ok 1 d_La_law_433 rfl rfl ?_
    refine jr_iload ok 0 d_La_law_434 rfl ?_
    refine jr_iconst ok d_La_law_436 ?_
    refine jr_iadd ok d_La_law_437 ?_
    refine jr_sld ok hX hbl hbA hn (by omega) (by omega) d_La_law_438 ?_
    refine jr_aload_n ok 1 d_La_law_439 rfl rfl ?_
    refine jr_iload ok 0 d_La_law_440 rfl ?_
    refine jr_iconst ok d_La_law_442 ?_
    refine jr_iadd ok d_La_law_443 ?_
    refine jr_sld ok hX hbl hbA hn (by omega) (by omega) d_La_law_444 ?_
    refine jr_wi2l ok rfl d_La_law_445 ?_
    refine jr_bipush ok d_La_law_446 (by decide +kernel) ?_
    refine jr_lshlx ok d_La_law_448 ?_
    refine jr_aload_n ok 1 d_La_law_449 rfl rfl ?_
    refine jr_iload ok 0 d_La_law_450 rfl ?_
    refine jr_iconst ok d_La_law_452 ?_
    refine jr_iadd ok d_La_law_453 ?_
    refine jr_sld ok hX hbl hbA hn (by omega) (by omega) d_La_law_454 ?_
    refine jr_wi2l ok rfl d_La_law_455 ?_
    refine jr_ldc2 (z := 4294967295) ok w_1807 (by decide +kernel) d_La_law_456 ?_
    refine jr_landx ok d_La_law_459 ?_
    refine jr_lorx ok d_La_law_460 ?_
    refine jr_aload_n ok 1 d_La_law_461 rfl rfl ?_
    refine jr_iload ok 0 d_La_law_462 rfl ?_
    refine jr_iconst ok d_La_law_464 ?_
    refine jr_iadd ok d_La_law_465 ?_
    refine jr_sld ok hX hbl hbA hn (by omega) (by omega) d_La_law_466 ?_
    refine jr_wi2l ok rfl d_La_law_467 ?_
    refine jr_bipush ok d_La_law_468 (by decide +kernel) ?_
    refine jr_lshlx ok d_La_law_470 ?_
    refine jr_aload_n ok 1 d_La_law_471 rfl rfl ?_
    refine jr_iload ok 0 d_La_law_472 rfl ?_
    refine jr_iconst ok d_La_law_474 ?_
    refine jr_iadd ok d_La_law_475 ?_
    refine jr_sld ok hX hbl hbA hn (by omega) (by omega) d_La_law_476 ?_
    refine jr_wi2l ok rfl d_La_law_477 ?_
    refine jr_ldc2 (z := 4294967295) ok w_1807 (by decide +kernel) d_La_law_478 ?_
    refine jr_landx ok d_La_law_481 ?_
    refine jr_lorx ok d_La_law_482 ?_
    refine jr_aload_n ok 4 d_La_law_483 rfl rfl ?_
    refine jh_callS ok hI hTT hNN m_La_106 (jgH_frame (h_La_append (jx_l X) hnt D g A c S o fo ((xs (6 * (k : Int) + 1).toNat).toInt) (lx ((xs (6 * (k : Int) + 2).toNat).toInt) ((xs (6 * (k : Int) + 3).toNat).toInt)) (lx ((xs (6 * (k : Int) + 4).toNat).toInt) ((xs (6 * (k : Int) + 5).toNat).toInt)) 3 r c9 S9 1 fo e1 (Or.inr (Or.inl ⟨rfl, rfl, rfl⟩))) (moL D gm M)) (fun _ => rfl) rfl rfl (Nat.le_of_ble_eq_true rfl) ⟨by rw [hR]; exact Nat.le_of_ble_eq_true rfl, by rw [hR]; exact Nat.le_of_ble_eq_true rfl⟩ ⟨by rw [hR]; show 601024 - c.bc + c.bc ≤ 601024; omega, by rw [hR]; show 7293034 - c.bs + c.bs ≤ 7293034; omega⟩ d_La_law_484 (fun A9 hφ => ?_)
    refine jr_widen (cs' := 601024 - c9.bc) (sl' := 7293034 - c9.bs) (by have := hφ.1; show 601024 - c.bc + (c.bc - c9.bc) ≤ 601024 - c9.bc; omega) (by have := hφ.2; show 7293034 - c.bs + (c.bs - c9.bs) ≤ 7293034 - c9.bs; omega) ?_
    show jw X (601024 - c9.bc) (7293034 - c9.bs) ((wtL D g A9 c9 S9 ++ [al D 2 o 1 fo]) ++ moL D gm M) [(4, .int (ii (6 * (k : Int)))), (0, .ref b), (1, .ref (g 0)), (2, .ref (gm 0)), (3, .ref o)] 487 [.int (ii 1)]
    refine jr_istore [(5, .int (ii 1)), (4, .int (ii (6 * (k : Int)))), (0, .ref b), (1, .ref (g 0)), (2, .ref (gm 0)), (3, .ref o)] ok d_La_law_487 (by rw [hN]; decide) rfl ?_
    refine jr_aload_n ok 4 d_La_law_489 rfl rfl ?_
    refine jr_aload_n ok 2 d_La_law_490 rfl rfl ?_
    refine jr_iload ok 1 d_La_law_491 rfl ?_
    refine jr_iconst ok d_La_law_493 ?_
    refine jr_iadd ok d_La_law_494 ?_
    refine jr_sld ok hX hbl hbA hn (by omega) (by omega) d_La_law_495 ?_
    refine jr_aload_n ok 2 d_La_law_496 rfl rfl ?_
    refine jr_iload ok 1 d_La_law_497 rfl ?_
    refine jr_iconst ok d_La_law_499 ?_
    refine jr_iadd ok d_La_law_500 ?_
    refine jr_sld ok hX hbl hbA hn (by omega) (by omega) d_La_law_501 ?_
    refine jr_wi2l ok rfl d_La_law_502 ?_
    refine jr_bipush ok d_La_law_503 (by decide +kernel) ?_
    refine jr_lshlx ok d_La_law_505 ?_
    refine jr_aload_n ok 2 d_La_law_506 rfl rfl ?_
    refine jr_iload ok 1 d_La_law_507 rfl ?_
    refine jr_iconst ok d_La_law_509 ?_
    refine jr_iadd ok d_La_law_510 ?_
    refine jr_sld ok hX hbl hbA hn (by omega) (by omega) d_La_law_511 ?_
    refine jr_wi2l ok rfl d_La_law_512 ?_
    refine jr_ldc2 (z := 4294967295) ok w_1807 (by decide +kernel) d_La_law_513 ?_
    refine jr_landx ok d_La_law_516 ?_
    refine jr_lorx ok d_La_law_517 ?_
    refine jr_aload_n ok 2 d_La_law_518 rfl rfl ?_
    refine jr_iload ok 1 d_La_law_519 rfl ?_
    refine jr_iconst ok d_La_law_521 ?_
    refine jr_iadd ok d_La_law_522 ?_
    refine jr_sld ok hX hbl hbA hn (by omega) (by omega) d_La_law_523 ?_
    refine jr_wi2l ok rfl d_La_law_524 ?_
    refine jr_bipush ok d_La_law_525 (by decide +kernel) ?_
    refine jr_lshlx ok d_La_law_527 ?_
    refine jr_aload_n ok 2 d_La_law_528 rfl rfl ?_
    refine jr_iload ok 1 d_La_law_529 rfl ?_
    refine jr_iconst ok d_La_law_531 ?_
    refine jr_iadd ok d_La_law_532 ?_
    refine jr_sld ok hX hbl hbA hn (by omega) (by omega) d_La_law_533 ?_
    refine jr_wi2l ok rfl d_La_law_534 ?_
    refine jr_ldc2 (z := 4294967295) ok w_1807 (by decide +kernel) d_La_law_535 ?_
    refine jr_landx ok d_La_law_538 ?_
    refine jr_lorx ok d_La_law_539 ?_
    refine jr_swapL ?_
    refine jq_cV1 ok hR m_La_109 (jc_frame (c_Mo_append (jx_l X) D gm M ((xs (6 * (k : Int) + 1).toNat).toInt) (lx ((xs (6 * (k : Int) + 2).toNat).toInt) ((xs (6 * (k : Int) + 3).toNat).toInt)) (lx ((xs (6 * (k : Int) + 4).toNat).toInt) ((xs (6 * (k : Int) + 5).toNat).toInt)) r' M1 e2) (wtL D g A9 c9 S9 ++ [al D 2 o 1 fo])) (sg_atk 0 rfl) rfl rfl rfl (Nat.le_of_ble_eq_true rfl) ⟨Nat.le_of_ble_eq_true rfl, Nat.le_of_ble_eq_true rfl⟩ ⟨Nat.sub_le _ _, Nat.sub_le _ _⟩ d_La_law_540 ?_
    show jw X (601024 - c9.bc) (7293034 - c9.bs) (moL D gm M1 ++ (wtL D g A9 c9 S9 ++ [al D 2 o 1 fo])) [(5, .int (ii 1)), (4, .int (ii (6 * (k : Int)))), (0, .ref b), (1, .ref (g 0)), (2, .ref (gm 0)), (3, .ref o)] 543 [.int (ii r')]
    refine jr_swapL ?_
    refine jr_istore [(6, .int (ii r')), (5, .int (ii 1)), (4, .int (ii (6 * (k : Int)))), (0, .ref b), (1, .ref (g 0)), (2, .ref (gm 0)), (3, .ref o)] ok d_La_law_543 (by rw [hN]; decide) rfl ?_
    refine jr_aload_n ok 5 d_La_law_545 rfl rfl ?_
    refine jr_swapL ?_
    refine jq_cV1 ok hR m_La_85 (jc_frame (c_Mo_thrown (jx_l X) D gm M1 t' M2 e3) (wtL D g A9 c9 S9 ++ [al D 2 o 1 fo])) (sg_atk 0 rfl) rfl rfl rfl (Nat.le_of_ble_eq_true rfl) ⟨Nat.le_of_ble_eq_true rfl, Nat.le_of_ble_eq_true rfl⟩ ⟨Nat.sub_le _ _, Nat.sub_le _ _⟩ d_La_law_546 ?_
    show jw X (601024 - c9.bc) (7293034 - c9.bs) (moL D gm M2 ++ (wtL D g A9 c9 S9 ++ [al D 2 o 1 fo])) [(6, .int (ii r')), (5, .int (ii 1)), (4, .int (ii (6 * (k : Int)))), (0, .ref b), (1, .ref (g 0)), (2, .ref (gm 0)), (3, .ref o)] 549 [.int (ii t')]
    refine jr_swapL ?_
    refine jr_iload ok 1 d_La_law_549 rfl ?_
    refine jr_wicmp_eq 556 ok ht' (show w32 1 = 1 by decide) d_La_law_551 (by decide) (fun _ => ?_) (fun z => absurd rfl z)
    refine jr_iload ok 1 d_La_law_556 rfl ?_
    refine jr_wif_ne 573 ok (show w32 1 = 1 by decide) d_La_law_558 (by decide) (fun _ => ?_) (fun z => absurd z (by decide))
    refine jr_goto 1398 ok d_La_law_573 (by decide) ?_
    exact jr_lv [2, 3, 4, 5, 6] rfl (next A9 c9 S9 fo M2 ⟨Nat.le_trans hφ.1 hcc.1, Nat.le_trans hφ.2 hcc.2⟩ hI9)
  · skip
    refine jr_aload_n ok 2 d_La_law_432 rfl rfl ?_
    refine jr_aload_n ok 1 d_La_law_433 rfl rfl ?_
    refine jr_iload ok 0 d_La_law_434 rfl ?_
    refine jr_iconst ok d_La_law_436 ?_
    refine jr_iadd ok d_La_law_437 ?_
    refine jr_sld ok hX hbl hbA hn (by omega) (by omega) d_La_law_438 ?_
    refine jr_aload_n ok 1 d_La_law_439 rfl rfl ?_
    refine jr_iload ok 0 d_La_law_440 rfl ?_
    refine jr_iconst ok d_La_law_442 ?_
    refine jr_iadd ok d_La_law_443 ?_
    refine jr_sld ok hX hbl hbA hn (by omega) (by omega) d_La_law_444 ?_
    refine jr_wi2l ok rfl d_La_law_445 ?_
    refine jr_bipush ok d_La_law_446 (by decide +kernel) ?_
    refine jr_lshlx ok d_La_law_448 ?_
    refine jr_aload_n ok 1 d_La_law_449 rfl rfl ?_
    refine jr_iload ok 0 d_La_law_450 rfl ?_
    refine jr_iconst ok d_La_law_452 ?_
    refine jr_iadd ok d_La_law_453 ?_
    refine jr_sld ok hX hbl hbA hn (by omega) (by omega) d_La_law_454 ?_
    refine jr_wi2l ok rfl d_La_law_455 ?_
    refine jr_ldc2 (z := 4294967295) ok w_1807 (by decide +kernel) d_La_law_456 ?_
    refine jr_landx ok d_La_law_459 ?_
    refine jr_lorx ok d_La_law_460 ?_
    refine jr_aload_n ok 1 d_La_law_461 rfl rfl ?_
    refine jr_iload ok 0 d_La_law_462 rfl ?_
    refine jr_iconst ok d_La_law_464 ?_
    refine jr_iadd ok d_La_law_465 ?_
    refine jr_sld ok hX hbl hbA hn (by omega) (by omega) d_La_law_466 ?_
    refine jr_wi2l ok rfl d_La_law_467 ?_
    refine jr_bipush ok d_La_law_468 (by decide +kernel) ?_
    refine jr_lshlx ok d_La_law_470 ?_
    refine jr_aload_n ok 1 d_La_law_471 rfl rfl ?_
    refine jr_iload ok 0 d_La_law_472 rfl ?_
    refine jr_iconst ok d_La_law_474 ?_
    refine jr_iadd ok d_La_law_475 ?_
    refine jr_sld ok hX hbl hbA hn (by omega) (by omega) d_La_law_476 ?_
    refine jr_wi2l ok rfl d_La_law_477 ?_
    refine jr_ldc2 (z := 4294967295) ok w_1807 (by decide +kernel) d_La_law_478 ?_
    refine jr_landx ok d_La_law_481 ?_
    refine jr_lorx ok d_La_law_482 ?_
    refine jr_aload_n ok 4 d_La_law_483 rfl rfl ?_
    refine jh_callS ok hI hTT hNN m_La_106 (jgH_frame (h_La_append (jx_l X) hnt D g A c S o fo ((xs (6 * (k : Int) + 1).toNat).toInt) (lx ((xs (6 * (k : Int) + 2).toNat).toInt) ((xs (6 * (k : Int) + 3).toNat).toInt)) (lx ((xs (6 * (k : Int) + 4).toNat).toInt) ((xs (6 * (k : Int) + 5).toNat).toInt)) 2 r c9 S9 2 fo e1 (Or.inr (Or.inr (Or.inl ⟨rfl, rfl, rfl⟩)))) (moL D gm M)) (fun _ => rfl) rfl rfl (Nat.le_of_ble_eq_true rfl) ⟨by rw [hR]; exact Nat.le_of_ble_eq_true rfl, by rw [hR]; exact Nat.le_of_ble_eq_true rfl⟩ ⟨by rw [hR]; show 601024 - c.bc + c.bc ≤ 601024; omega, by rw [hR]; show 7293034 - c.bs + c.bs ≤ 7293034; omega⟩ d_La_law_484 (fun A9 hφ => ?_)
    refine jr_widen (cs' := 601024 - c9.bc) (sl' := 7293034 - c9.bs) (by have := hφ.1; show 601024 - c.bc + (c.bc - c9.bc) ≤ 601024 - c9.bc; omega) (by have := hφ.2; show 7293034 - c.bs + (c.bs - c9.bs) ≤ 7293034 - c9.bs; omega) ?_
    show jw X (601024 - c9.bc) (7293034 - c9.bs) ((wtL D g A9 c9 S9 ++ [al D 2 o 1 fo]) ++ moL D gm M) [(4, .int (ii (6 * (k : Int)))), (0, .ref b), (1, .ref (g 0)), (2, .ref (gm 0)), (3, .ref o)] 487 [.int (ii 2)]
    refine jr_istore [(5, .int (ii 2)), (4, .int (ii (6 * (k : Int)))), (0, .ref b), (1, .ref (g 0)), (2, .ref (gm 0)), (3, .ref o)] ok d_La_law_487 (by rw [hN]; decide) rfl ?_
    refine jr_aload_n ok 4 d_La_law_489 rfl rfl ?_
    refine jr_aload_n ok 2 d_La_law_490 rfl rfl ?_
    refine jr_iload ok 1 d_La_law_491 rfl ?_
    refine jr_iconst ok d_La_law_493 ?_
    refine jr_iadd ok d_La_law_494 ?_
    refine jr_sld ok hX hbl hbA hn (by omega) (by omega) d_La_law_495 ?_
    refine jr_aload_n ok 2 d_La_law_496 rfl rfl ?_
    refine jr_iload ok 1 d_La_law_497 rfl ?_
    refine jr_iconst ok d_La_law_499 ?_
    refine jr_iadd ok d_La_law_500 ?_
    refine jr_sld ok hX hbl hbA hn (by omega) (by omega) d_La_law_501 ?_
    refine jr_wi2l ok rfl d_La_law_502 ?_
    refine jr_bipush ok d_La_law_503 (by decide +kernel) ?_
    refine jr_lshlx ok d_La_law_505 ?_
    refine jr_aload_n ok 2 d_La_law_506 rfl rfl ?_
    refine jr_iload ok 1 d_La_law_507 rfl ?_
    refine jr_iconst ok d_La_law_509 ?_
    refine jr_iadd ok d_La_law_510 ?_
    refine jr_sld ok hX hbl hbA hn (by omega) (by omega) d_La_law_511 ?_
    refine jr_wi2l ok rfl d_La_law_512 ?_
    refine jr_ldc2 (z := 4294967295) ok w_1807 (by decide +kernel) d_La_law_513 ?_
    refine jr_landx ok d_La_law_516 ?_
    refine jr_lorx ok d_La_law_517 ?_
    refine jr_aload_n ok 2 d_La_law_518 rfl rfl ?_
    refine jr_iload ok 1 d_La_law_519 rfl ?_
    refine jr_iconst ok d_La_law_521 ?_
    refine jr_iadd ok d_La_law_522 ?_
    refine jr_sld ok hX hbl hbA hn (by omega) (by omega) d_La_law_523 ?_
    refine jr_wi2l ok rfl d_La_law_524 ?_
    refine jr_bipush ok d_La_law_525 (by decide +kernel) ?_
    refine jr_lshlx ok d_La_law_527 ?_
    refine jr_aload_n ok 2 d_La_law_528 rfl rfl ?_
    refine jr_iload ok 1 d_La_law_529 rfl ?_
    refine jr_iconst ok d_La_law_531 ?_
    refine jr_iadd ok d_La_law_532 ?_
    refine jr_sld ok hX hbl hbA hn (by omega) (by omega) d_La_law_533 ?_
    refine jr_wi2l ok rfl d_La_law_534 ?_
    refine jr_ldc2 (z := 4294967295) ok w_1807 (by decide +kernel) d_La_law_535 ?_
    refine jr_landx ok d_La_law_538 ?_
    refine jr_lorx ok d_La_law_539 ?_
    refine jr_swapL ?_
    refine jq_cV1 ok hR m_La_109 (jc_frame (c_Mo_append (jx_l X) D gm M ((xs (6 * (k : Int) + 1).toNat).toInt) (lx ((xs (6 * (k : Int) + 2).toNat).toInt) ((xs (6 * (k : Int) + 3).toNat).toInt)) (lx ((xs (6 * (k : Int) + 4).toNat).toInt) ((xs (6 * (k : Int) + 5).toNat).toInt)) r' M1 e2) (wtL D g A9 c9 S9 ++ [al D 2 o 1 fo])) (sg_atk 0 rfl) rfl rfl rfl (Nat.le_of_ble_eq_true rfl) ⟨Nat.le_of_ble_eq_true rfl, Nat.le_of_ble_eq_true rfl⟩ ⟨Nat.sub_le _ _, Nat.sub_le _ _⟩ d_La_law_540 ?_
    show jw X (601024 - c9.bc) (7293034 - c9.bs) (moL D gm M1 ++ (wtL D g A9 c9 S9 ++ [al D 2 o 1 fo])) [(5, .int (ii 2)), (4, .int (ii (6 * (k : Int)))), (0, .ref b), (1, .ref (g 0)), (2, .ref (gm 0)), (3, .ref o)] 543 [.int (ii r')]
    refine jr_swapL ?_
    refine jr_istore [(6, .int (ii r')), (5, .int (ii 2)), (4, .int (ii (6 * (k : Int)))), (0, .ref b), (1, .ref (g 0)), (2, .ref (gm 0)), (3, .ref o)] ok d_La_law_543 (by rw [hN]; decide) rfl ?_
    refine jr_aload_n ok 5 d_La_law_545 rfl rfl ?_
    refine jr_swapL ?_
    refine jq_cV1 ok hR m_La_85 (jc_frame (c_Mo_thrown (jx_l X) D gm M1 t' M2 e3) (wtL D g A9 c9 S9 ++ [al D 2 o 1 fo])) (sg_atk 0 rfl) rfl rfl rfl (Nat.le_of_ble_eq_true rfl) ⟨Nat.le_of_ble_eq_true rfl, Nat.le_of_ble_eq_true rfl⟩ ⟨Nat.sub_le _ _, Nat.sub_le _ _⟩ d_La_law_546 ?_
    show jw X (601024 - c9.bc) (7293034 - c9.bs) (moL D gm M2 ++ (wtL D g A9 c9 S9 ++ [al D 2 o 1 fo])) [(6, .int (ii r')), (5, .int (ii 2)), (4, .int (ii (6 * (k : Int)))), (0, .ref b), (1, .ref (g 0)), (2, .ref (gm 0)), (3, .ref o)] 549 [.int (ii t')]
    refine jr_swapL ?_
    refine jr_iload ok 1 d_La_law_549 rfl ?_
    refine jr_wicmp_eq 556 ok ht' (show w32 2 = 2 by decide) d_La_law_551 (by decide) (fun _ => ?_) (fun z => absurd rfl z)
    refine jr_iload ok 1 d_La_law_556 rfl ?_
    refine jr_wif_ne 573 ok (show w32 2 = 2 by decide) d_La_law_558 (by decide) (fun _ => ?_) (fun z => absurd z (by decide))
    refine jr_goto 1398 ok d_La_law_573 (by decide) ?_
    exact jr_lv [2, 3, 4, 5, 6] rfl (next A9 c9 S9 fo M2 ⟨Nat.le_trans hφ.1 hcc.1, Nat.le_trans hφ.2 hcc.2⟩ hI9)
  · skip
    refine jr_aload_n ok 2 d_La_law_432 rfl rfl ?_
    refine jr_aload_n ok 1 d_La_law_433 rfl rfl ?_
    refine jr_iload ok 0 d_La_law_434 rfl ?_
    refine jr_iconst ok d_La_law_436 ?_
    refine jr_iadd ok d_La_law_437 ?_
    refine jr_sld ok hX hbl hbA hn (by omega) (by omega) d_La_law_438 ?_
    refine jr_aload_n ok 1 d_La_law_439 rfl rfl ?_
    refine jr_iload ok 0 d_La_law_440 rfl ?_
    refine jr_iconst ok d_La_law_442 ?_
    refine jr_iadd ok d_La_law_443 ?_
    refine jr_sld ok hX hbl hbA hn (by omega) (by omega) d_La_law_444 ?_
    refine jr_wi2l ok rfl d_La_law_445 ?_
    refine jr_bipush ok d_La_law_446 (by decide +kernel) ?_
    refine jr_lshlx ok d_La_law_448 ?_
    refine jr_aload_n ok 1 d_La_law_449 rfl rfl ?_
    refine jr_iload ok 0 d_La_law_450 rfl ?_
    refine jr_iconst ok d_La_law_452 ?_
    refine jr_iadd ok d_La_law_453 ?_
    refine jr_sld ok hX hbl hbA hn (by omega) (by omega) d_La_law_454 ?_
    refine jr_wi2l ok rfl d_La_law_455 ?_
    refine jr_ldc2 (z := 4294967295) ok w_1807 (by decide +kernel) d_La_law_456 ?_
    refine jr_landx ok d_La_law_459 ?_
    refine jr_lorx ok d_La_law_460 ?_
    refine jr_aload_n ok 1 d_La_law_461 rfl rfl ?_
    refine jr_iload ok 0 d_La_law_462 rfl ?_
    refine jr_iconst ok d_La_law_464 ?_
    refine jr_iadd ok d_La_law_465 ?_
    refine jr_sld ok hX hbl hbA hn (by omega) (by omega) d_La_law_466 ?_
    refine jr_wi2l ok rfl d_La_law_467 ?_
    refine jr_bipush ok d_La_law_468 (by decide +kernel) ?_
    refine jr_lshlx ok d_La_law_470 ?_
    refine jr_aload_n ok 1 d_La_law_471 rfl rfl ?_
    refine jr_iload ok 0 d_La_law_472 rfl ?_
    refine jr_iconst ok d_La_law_474 ?_
    refine jr_iadd ok d_La_law_475 ?_
    refine jr_sld ok hX hbl hbA hn (by omega) (by omega) d_La_law_476 ?_
    refine jr_wi2l ok rfl d_La_law_477 ?_
    refine jr_ldc2 (z := 4294967295) ok w_1807 (by decide +kernel) d_La_law_478 ?_
    refine jr_landx ok d_La_law_481 ?_
    refine jr_lorx ok d_La_law_482 ?_
    refine jr_aload_n ok 4 d_La_law_483 rfl rfl ?_
    refine jh_callS ok hI hTT hNN m_La_106 (jgH_frame (h_La_append (jx_l X) hnt D g A c S o fo ((xs (6 * (k : Int) + 1).toNat).toInt) (lx ((xs (6 * (k : Int) + 2).toNat).toInt) ((xs (6 * (k : Int) + 3).toNat).toInt)) (lx ((xs (6 * (k : Int) + 4).toNat).toInt) ((xs (6 * (k : Int) + 5).toNat).toInt)) 1 r c9 S9 3 fo e1 (Or.inr (Or.inr (Or.inr ⟨rfl, rfl, rfl⟩)))) (moL D gm M)) (fun _ => rfl) rfl rfl (Nat.le_of_ble_eq_true rfl) ⟨by rw [hR]; exact Nat.le_of_ble_eq_true rfl, by rw [hR]; exact Nat.le_of_ble_eq_true rfl⟩ ⟨by rw [hR]; show 601024 - c.bc + c.bc ≤ 601024; omega, by rw [hR]; show 7293034 - c.bs + c.bs ≤ 7293034; omega⟩ d_La_law_484 (fun A9 hφ => ?_)
    refine jr_widen (cs' := 601024 - c9.bc) (sl' := 7293034 - c9.bs) (by have := hφ.1; show 601024 - c.bc + (c.bc - c9.bc) ≤ 601024 - c9.bc; omega) (by have := hφ.2; show 7293034 - c.bs + (c.bs - c9.bs) ≤ 7293034 - c9.bs; omega) ?_
    show jw X (601024 - c9.bc) (7293034 - c9.bs) ((wtL D g A9 c9 S9 ++ [al D 2 o 1 fo]) ++ moL D gm M) [(4, .int (ii (6 * (k : Int)))), (0, .ref b), (1, .ref (g 0)), (2, .ref (gm 0)), (3, .ref o)] 487 [.int (ii 3)]
    refine jr_istore [(5, .int (ii 3)), (4, .int (ii (6 * (k : Int)))), (0, .ref b), (1, .ref (g 0)), (2, .ref (gm 0)), (3, .ref o)] ok d_La_law_487 (by rw [hN]; decide) rfl ?_
    refine jr_aload_n ok 4 d_La_law_489 rfl rfl ?_
    refine jr_aload_n ok 2 d_La_law_490 rfl rfl ?_
    refine jr_iload ok 1 d_La_law_491 rfl ?_
    refine jr_iconst ok d_La_law_493 ?_
    refine jr_iadd ok d_La_law_494 ?_
    refine jr_sld ok hX hbl hbA hn (by omega) (by omega) d_La_law_495 ?_
    refine jr_aload_n ok 2 d_La_law_496 rfl rfl ?_
    refine jr_iload ok 1 d_La_law_497 rfl ?_
    refine jr_iconst ok d_La_law_499 ?_
    refine jr_iadd ok d_La_law_500 ?_
    refine jr_sld ok hX hbl hbA hn (by omega) (by omega) d_La_law_501 ?_
    refine jr_wi2l ok rfl d_La_law_502 ?_
    refine jr_bipush ok d_La_law_503 (by decide +kernel) ?_
    refine jr_lshlx ok d_La_law_505 ?_
    refine jr_aload_n ok 2 d_La_law_506 rfl rfl ?_
    refine jr_iload ok 1 d_La_law_507 rfl ?_
    refine jr_iconst ok d_La_law_509 ?_
    refine jr_iadd ok d_La_law_510 ?_
    refine jr_sld ok hX hbl hbA hn (by omega) (by omega) d_La_law_511 ?_
    refine jr_wi2l ok rfl d_La_law_512 ?_
    refine jr_ldc2 (z := 4294967295) ok w_1807 (by decide +kernel) d_La_law_513 ?_
    refine jr_landx ok d_La_law_516 ?_
    refine jr_lorx ok d_La_law_517 ?_
    refine jr_aload_n ok 2 d_La_law_518 rfl rfl ?_
    refine jr_iload ok 1 d_La_law_519 rfl ?_
    refine jr_iconst ok d_La_law_521 ?_
    refine jr_iadd ok d_La_law_522 ?_
    refine jr_sld ok hX hbl hbA hn (by omega) (by omega) d_La_law_523 ?_
    refine jr_wi2l ok rfl d_La_law_524 ?_
    refine jr_bipush ok d_La_law_525 (by decide +kernel) ?_
    refine jr_lshlx ok d_La_law_527 ?_
    refine jr_aload_n ok 2 d_La_law_528 rfl rfl ?_
    refine jr_iload ok 1 d_La_law_529 rfl ?_
    refine jr_iconst ok d_La_law_531 ?_
    refine jr_iadd ok d_La_law_532 ?_
    refine jr_sld ok hX hbl hbA hn (by omega) (by omega) d_La_law_533 ?_
    refine jr_wi2l ok rfl d_La_law_534 ?_
    refine jr_ldc2 (z := 4294967295) ok w_1807 (by decide +kernel) d_La_law_535 ?_
    refine jr_landx ok d_La_law_538 ?_
    refine jr_lorx ok d_La_law_539 ?_
    refine jr_swapL ?_
    refine jq_cV1 ok hR m_La_109 (jc_frame (c_Mo_append (jx_l X) D gm M ((xs (6 * (k : Int) + 1).toNat).toInt) (lx ((xs (6 * (k : Int) + 2).toNat).toInt) ((xs (6 * (k : Int) + 3).toNat).toInt)) (lx ((xs (6 * (k : Int) + 4).toNat).toInt) ((xs (6 * (k : Int) + 5).toNat).toInt)) r' M1 e2) (wtL D g A9 c9 S9 ++ [al D 2 o 1 fo])) (sg_atk 0 rfl) rfl rfl rfl (Nat.le_of_ble_eq_true rfl) ⟨Nat.le_of_ble_eq_true rfl, Nat.le_of_ble_eq_true rfl⟩ ⟨Nat.sub_le _ _, Nat.sub_le _ _⟩ d_La_law_540 ?_
    show jw X (601024 - c9.bc) (7293034 - c9.bs) (moL D gm M1 ++ (wtL D g A9 c9 S9 ++ [al D 2 o 1 fo])) [(5, .int (ii 3)), (4, .int (ii (6 * (k : Int)))), (0, .ref b), (1, .ref (g 0)), (2, .ref (gm 0)), (3, .ref o)] 543 [.int (ii r')]
    refine jr_swapL ?_
    refine jr_istore [(6, .int (ii r')), (5, .int (ii 3)), (4, .int (ii (6 * (k : Int)))), (0, .ref b), (1, .ref (g 0)), (2, .ref (gm 0)), (3, .ref o)] ok d_La_law_543 (by rw [hN]; decide) rfl ?_
    refine jr_aload_n ok 5 d_La_law_545 rfl rfl ?_
    refine jr_swapL ?_
    refine jq_cV1 ok hR m_La_85 (jc_frame (c_Mo_thrown (jx_l X) D gm M1 t' M2 e3) (wtL D g A9 c9 S9 ++ [al D 2 o 1 fo])) (sg_atk 0 rfl) rfl rfl rfl (Nat.le_of_ble_eq_true rfl) ⟨Nat.le_of_ble_eq_true rfl, Nat.le_of_ble_eq_true rfl⟩ ⟨Nat.sub_le _ _, Nat.sub_le _ _⟩ d_La_law_546 ?_
    show jw X (601024 - c9.bc) (7293034 - c9.bs) (moL D gm M2 ++ (wtL D g A9 c9 S9 ++ [al D 2 o 1 fo])) [(6, .int (ii r')), (5, .int (ii 3)), (4, .int (ii (6 * (k : Int)))), (0, .ref b), (1, .ref (g 0)), (2, .ref (gm 0)), (3, .ref o)] 549 [.int (ii t')]
    refine jr_swapL ?_
    refine jr_iload ok 1 d_La_law_549 rfl ?_
    refine jr_wicmp_eq 556 ok ht' (show w32 3 = 3 by decide) d_La_law_551 (by decide) (fun _ => ?_) (fun z => absurd rfl z)
    refine jr_iload ok 1 d_La_law_556 rfl ?_
    refine jr_wif_ne 573 ok (show w32 3 = 3 by decide) d_La_law_558 (by decide) (fun _ => ?_) (fun z => absurd z (by decide))
    refine jr_goto 1398 ok d_La_law_573 (by decide) ?_
    exact jr_lv [2, 3, 4, 5, 6] rfl (next A9 c9 S9 fo M2 ⟨Nat.le_trans hφ.1 hcc.1, Nat.le_trans hφ.2 hcc.2⟩ hI9)

set_option maxHeartbeats 4000000 in
set_option maxRecDepth 100000 in
theorem lc_bulk {I : Nat → CW → WS → MS → Prop} (st : st_bulk I) {X : jx_T} {D : jd_T} {b n o : Nat} {xs : Nat → Int32} {g gm : Nat → Nat} (W : lawW X D b n xs) {k : Nat} {A : AW} {c : CW} {S : WS} {fo : Int → Int64} {M : MS} (hk : k < 512) (hkn : 6 * (k : Int) + 6 ≤ (n : Int)) (hcc : c.bc ≤ 601024 ∧ c.bs ≤ 7293034) (hI0 : I k c S M) (next : ∀ (A : AW) (c : CW) (S : WS) (fo : Int → Int64) (M : MS), (c.bc ≤ 601024 ∧ c.bs ≤ 7293034) → I (k + 1) c S M → jw X (601024 - c.bc) (7293034 - c.bs) ((wtL D g A c S ++ [al D 2 o 1 fo]) ++ moL D gm M) [(4, .int (ii (6 * (k : Int)))), (0, .ref b), (1, .ref (g 0)), (2, .ref (gm 0)), (3, .ref o)] 1398 []) : jw X (601024 - c.bc) (7293034 - c.bs) ((wtL D g A c S ++ [al D 2 o 1 fo]) ++ moL D gm M) [(4, .int (ii (6 * (k : Int)))), (0, .ref b), (1, .ref (g 0)), (2, .ref (gm 0)), (3, .ref o)] 576 [] := by
  obtain ⟨ok, hI, hTT, hNN, hnt, hR, hN, hX, hbl, hbA, hn0⟩ := W
  have hn : n ≤ 2147483647 := by omega
  obtain ⟨t, r, c9, S9, r', M1, t', M2, e1, e2, e3, hc, hI9⟩ := st k c S M ((xs (6 * (k : Int) + 1).toNat).toInt) hk hI0 (xs_R _)
  rcases hc with ⟨rfl, ht', hr⟩ | ⟨rfl, ht'⟩
  · skip
    refine jr_aload_n ok 2 d_La_law_576 rfl rfl ?_
    refine jr_aload_n ok 1 d_La_law_577 rfl rfl ?_
    refine jr_iload ok 0 d_La_law_578 rfl ?_
    refine jr_iconst ok d_La_law_580 ?_
    refine jr_iadd ok d_La_law_581 ?_
    refine jr_sld ok hX hbl hbA hn (by omega) (by omega) d_La_law_582 ?_
    refine jr_aload_n ok 4 d_La_law_583 rfl rfl ?_
    refine jh_callS ok hI hTT hNN m_La_110 (jgH_frame (h_La_bulk (jx_l X) hnt D g A c S o fo ((xs (6 * (k : Int) + 1).toNat).toInt) 0 r c9 S9 0 (fun j => if j = 0 then ll (w32 r) else fo j) e1 (Or.inl ⟨rfl, rfl, rfl⟩)) (moL D gm M)) (fun _ => rfl) rfl rfl (Nat.le_of_ble_eq_true rfl) ⟨by rw [hR]; exact Nat.le_of_ble_eq_true rfl, by rw [hR]; exact Nat.le_of_ble_eq_true rfl⟩ ⟨by rw [hR]; show 601024 - c.bc + c.bc ≤ 601024; omega, by rw [hR]; show 7293034 - c.bs + c.bs ≤ 7293034; omega⟩ d_La_law_584 (fun A9 hφ => ?_)
    refine jr_widen (cs' := 601024 - c9.bc) (sl' := 7293034 - c9.bs) (by have := hφ.1; show 601024 - c.bc + (c.bc - c9.bc) ≤ 601024 - c9.bc; omega) (by have := hφ.2; show 7293034 - c.bs + (c.bs - c9.bs) ≤ 7293034 - c9.bs; omega) ?_
    show jw X (601024 - c9.bc) (7293034 - c9.bs) ((wtL D g A9 c9 S9 ++ [al D 2 o 1 (fun j => if j = 0 then ll (w32 r) else fo j)]) ++ moL D gm M) [(4, .int (ii (6 * (k : Int)))), (0, .ref b), (1, .ref (g 0)), (2, .ref (gm 0)), (3, .ref o)] 587 [.int (ii 0)]
    refine jr_istore [(5, .int (ii 0)), (4, .int (ii (6 * (k : Int)))), (0, .ref b), (1, .ref (g 0)), (2, .ref (gm 0)), (3, .ref o)] ok d_La_law_587 (by rw [hN]; decide) rfl ?_
    refine jr_aload_n ok 4 d_La_law_589 rfl rfl ?_
    refine jr_aload_n ok 2 d_La_law_590 rfl rfl ?_
    refine jr_iload ok 1 d_La_law_591 rfl ?_
    refine jr_iconst ok d_La_law_593 ?_
    refine jr_iadd ok d_La_law_594 ?_
    refine jr_sld ok hX hbl hbA hn (by omega) (by omega) d_La_law_595 ?_
    refine jr_swapL ?_
    refine jq_cV1 ok hR m_La_112 (jc_frame (c_Mo_bulk (jx_l X) D gm M ((xs (6 * (k : Int) + 1).toNat).toInt) r' M1 e2) (wtL D g A9 c9 S9 ++ [al D 2 o 1 (fun j => if j = 0 then ll (w32 r) else fo j)])) (sg_atk 0 rfl) rfl rfl rfl (Nat.le_of_ble_eq_true rfl) ⟨Nat.le_of_ble_eq_true rfl, Nat.le_of_ble_eq_true rfl⟩ ⟨Nat.sub_le _ _, Nat.sub_le _ _⟩ d_La_law_596 ?_
    show jw X (601024 - c9.bc) (7293034 - c9.bs) (moL D gm M1 ++ (wtL D g A9 c9 S9 ++ [al D 2 o 1 (fun j => if j = 0 then ll (w32 r) else fo j)])) [(5, .int (ii 0)), (4, .int (ii (6 * (k : Int)))), (0, .ref b), (1, .ref (g 0)), (2, .ref (gm 0)), (3, .ref o)] 599 [.int (ii r')]
    refine jr_swapL ?_
    refine jr_istore [(6, .int (ii r')), (5, .int (ii 0)), (4, .int (ii (6 * (k : Int)))), (0, .ref b), (1, .ref (g 0)), (2, .ref (gm 0)), (3, .ref o)] ok d_La_law_599 (by rw [hN]; decide) rfl ?_
    refine jr_aload_n ok 5 d_La_law_601 rfl rfl ?_
    refine jr_swapL ?_
    refine jq_cV1 ok hR m_La_85 (jc_frame (c_Mo_thrown (jx_l X) D gm M1 t' M2 e3) (wtL D g A9 c9 S9 ++ [al D 2 o 1 (fun j => if j = 0 then ll (w32 r) else fo j)])) (sg_atk 0 rfl) rfl rfl rfl (Nat.le_of_ble_eq_true rfl) ⟨Nat.le_of_ble_eq_true rfl, Nat.le_of_ble_eq_true rfl⟩ ⟨Nat.sub_le _ _, Nat.sub_le _ _⟩ d_La_law_602 ?_
    show jw X (601024 - c9.bc) (7293034 - c9.bs) (moL D gm M2 ++ (wtL D g A9 c9 S9 ++ [al D 2 o 1 (fun j => if j = 0 then ll (w32 r) else fo j)])) [(6, .int (ii r')), (5, .int (ii 0)), (4, .int (ii (6 * (k : Int)))), (0, .ref b), (1, .ref (g 0)), (2, .ref (gm 0)), (3, .ref o)] 605 [.int (ii t')]
    refine jr_swapL ?_
    refine jr_iload ok 1 d_La_law_605 rfl ?_
    refine jr_wicmp_eq 612 ok ht' (show w32 0 = 0 by decide) d_La_law_607 (by decide) (fun _ => ?_) (fun z => absurd rfl z)
    refine jr_iload ok 1 d_La_law_612 rfl ?_
    refine jr_wif_ne 629 ok (show w32 0 = 0 by decide) d_La_law_614 (by decide) (fun z => absurd rfl z) (fun _ => ?_)
    refine jr_aload_n ok 6 d_La_law_617 rfl rfl ?_
    refine jr_iconst ok d_La_law_618 ?_
    refine jr_lald ok 24 rfl rfl (by decide) (by decide) d_La_law_619 ?_
    show jw X (601024 - c9.bc) (7293034 - c9.bs) ((wtL D g A9 c9 S9 ++ [al D 2 o 1 (fun j => if j = 0 then ll (w32 r) else fo j)]) ++ moL D gm M2) [(6, .int (ii r')), (5, .int (ii 0)), (4, .int (ii (6 * (k : Int)))), (0, .ref b), (1, .ref (g 0)), (2, .ref (gm 0)), (3, .ref o)] 620 [.long (ll (w32 r))]
    refine jr_iload ok 0 d_La_law_620 rfl ?_
    refine jr_wi2l ok rfl d_La_law_622 ?_
    refine jr_lif_eq 629 ok rfl (show (ll (w32 r')).toInt = (ll (w32 r)).toInt by rw [hr]) d_La_law_623 d_La_law_624 (by decide) (fun _ => ?_) (fun z => absurd rfl z)
    refine jr_goto 1398 ok d_La_law_629 (by decide) ?_
    exact jr_lv [2, 3, 4, 5, 6] rfl (next A9 c9 S9 (fun j => if j = 0 then ll (w32 r) else fo j) M2 ⟨Nat.le_trans hφ.1 hcc.1, Nat.le_trans hφ.2 hcc.2⟩ hI9)
  · skip
    refine jr_aload_n ok 2 d_La_law_576 rfl rfl ?_
    refine jr_aload_n ok 1 d_La_law_577 rfl rfl ?_
    refine jr_iload ok 0 d_La_law_578 rfl ?_
    refine jr_iconst ok d_La_law_580 ?_
    refine jr_iadd ok d_La_law_581 ?_
    refine jr_sld ok hX hbl hbA hn (by omega) (by omega) d_La_law_582 ?_
    refine jr_aload_n ok 4 d_La_law_583 rfl rfl ?_
    refine jh_callS ok hI hTT hNN m_La_110 (jgH_frame (h_La_bulk (jx_l X) hnt D g A c S o fo ((xs (6 * (k : Int) + 1).toNat).toInt) 3 r c9 S9 1 fo e1 (Or.inr ⟨rfl, rfl, rfl⟩)) (moL D gm M)) (fun _ => rfl) rfl rfl (Nat.le_of_ble_eq_true rfl) ⟨by rw [hR]; exact Nat.le_of_ble_eq_true rfl, by rw [hR]; exact Nat.le_of_ble_eq_true rfl⟩ ⟨by rw [hR]; show 601024 - c.bc + c.bc ≤ 601024; omega, by rw [hR]; show 7293034 - c.bs + c.bs ≤ 7293034; omega⟩ d_La_law_584 (fun A9 hφ => ?_)
    refine jr_widen (cs' := 601024 - c9.bc) (sl' := 7293034 - c9.bs) (by have := hφ.1; show 601024 - c.bc + (c.bc - c9.bc) ≤ 601024 - c9.bc; omega) (by have := hφ.2; show 7293034 - c.bs + (c.bs - c9.bs) ≤ 7293034 - c9.bs; omega) ?_
    show jw X (601024 - c9.bc) (7293034 - c9.bs) ((wtL D g A9 c9 S9 ++ [al D 2 o 1 fo]) ++ moL D gm M) [(4, .int (ii (6 * (k : Int)))), (0, .ref b), (1, .ref (g 0)), (2, .ref (gm 0)), (3, .ref o)] 587 [.int (ii 1)]
    refine jr_istore [(5, .int (ii 1)), (4, .int (ii (6 * (k : Int)))), (0, .ref b), (1, .ref (g 0)), (2, .ref (gm 0)), (3, .ref o)] ok d_La_law_587 (by rw [hN]; decide) rfl ?_
    refine jr_aload_n ok 4 d_La_law_589 rfl rfl ?_
    refine jr_aload_n ok 2 d_La_law_590 rfl rfl ?_
    refine jr_iload ok 1 d_La_law_591 rfl ?_
    refine jr_iconst ok d_La_law_593 ?_
    refine jr_iadd ok d_La_law_594 ?_
    refine jr_sld ok hX hbl hbA hn (by omega) (by omega) d_La_law_595 ?_
    refine jr_swapL ?_
    refine jq_cV1 ok hR m_La_112 (jc_frame (c_Mo_bulk (jx_l X) D gm M ((xs (6 * (k : Int) + 1).toNat).toInt) r' M1 e2) (wtL D g A9 c9 S9 ++ [al D 2 o 1 fo])) (sg_atk 0 rfl) rfl rfl rfl (Nat.le_of_ble_eq_true rfl) ⟨Nat.le_of_ble_eq_true rfl, Nat.le_of_ble_eq_true rfl⟩ ⟨Nat.sub_le _ _, Nat.sub_le _ _⟩ d_La_law_596 ?_
    show jw X (601024 - c9.bc) (7293034 - c9.bs) (moL D gm M1 ++ (wtL D g A9 c9 S9 ++ [al D 2 o 1 fo])) [(5, .int (ii 1)), (4, .int (ii (6 * (k : Int)))), (0, .ref b), (1, .ref (g 0)), (2, .ref (gm 0)), (3, .ref o)] 599 [.int (ii r')]
    refine jr_swapL ?_
    refine jr_istore [(6, .int (ii r')), (5, .int (ii 1)), (4, .int (ii (6 * (k : Int)))), (0, .ref b), (1, .ref (g 0)), (2, .ref (gm 0)), (3, .ref o)] ok d_La_law_599 (by rw [hN]; decide) rfl ?_
    refine jr_aload_n ok 5 d_La_law_601 rfl rfl ?_
    refine jr_swapL ?_
    refine jq_cV1 ok hR m_La_85 (jc_frame (c_Mo_thrown (jx_l X) D gm M1 t' M2 e3) (wtL D g A9 c9 S9 ++ [al D 2 o 1 fo])) (sg_atk 0 rfl) rfl rfl rfl (Nat.le_of_ble_eq_true rfl) ⟨Nat.le_of_ble_eq_true rfl, Nat.le_of_ble_eq_true rfl⟩ ⟨Nat.sub_le _ _, Nat.sub_le _ _⟩ d_La_law_602 ?_
    show jw X (601024 - c9.bc) (7293034 - c9.bs) (moL D gm M2 ++ (wtL D g A9 c9 S9 ++ [al D 2 o 1 fo])) [(6, .int (ii r')), (5, .int (ii 1)), (4, .int (ii (6 * (k : Int)))), (0, .ref b), (1, .ref (g 0)), (2, .ref (gm 0)), (3, .ref o)] 605 [.int (ii t')]
    refine jr_swapL ?_
    refine jr_iload ok 1 d_La_law_605 rfl ?_
    refine jr_wicmp_eq 612 ok ht' (show w32 1 = 1 by decide) d_La_law_607 (by decide) (fun _ => ?_) (fun z => absurd rfl z)
    refine jr_iload ok 1 d_La_law_612 rfl ?_
    refine jr_wif_ne 629 ok (show w32 1 = 1 by decide) d_La_law_614 (by decide) (fun _ => ?_) (fun z => absurd z (by decide))
    refine jr_goto 1398 ok d_La_law_629 (by decide) ?_
    exact jr_lv [2, 3, 4, 5, 6] rfl (next A9 c9 S9 fo M2 ⟨Nat.le_trans hφ.1 hcc.1, Nat.le_trans hφ.2 hcc.2⟩ hI9)

set_option maxHeartbeats 4000000 in
set_option maxRecDepth 100000 in
theorem lc_delete {I : Nat → CW → WS → MS → Prop} (st : st_delete I) {X : jx_T} {D : jd_T} {b n o : Nat} {xs : Nat → Int32} {g gm : Nat → Nat} (W : lawW X D b n xs) {k : Nat} {A : AW} {c : CW} {S : WS} {fo : Int → Int64} {M : MS} (hk : k < 512) (hkn : 6 * (k : Int) + 6 ≤ (n : Int)) (hcc : c.bc ≤ 601024 ∧ c.bs ≤ 7293034) (hI0 : I k c S M) (next : ∀ (A : AW) (c : CW) (S : WS) (fo : Int → Int64) (M : MS), (c.bc ≤ 601024 ∧ c.bs ≤ 7293034) → I (k + 1) c S M → jw X (601024 - c.bc) (7293034 - c.bs) ((wtL D g A c S ++ [al D 2 o 1 fo]) ++ moL D gm M) [(4, .int (ii (6 * (k : Int)))), (0, .ref b), (1, .ref (g 0)), (2, .ref (gm 0)), (3, .ref o)] 1398 []) : jw X (601024 - c.bc) (7293034 - c.bs) ((wtL D g A c S ++ [al D 2 o 1 fo]) ++ moL D gm M) [(4, .int (ii (6 * (k : Int)))), (0, .ref b), (1, .ref (g 0)), (2, .ref (gm 0)), (3, .ref o)] 632 [] := by
  obtain ⟨ok, hI, hTT, hNN, hnt, hR, hN, hX, hbl, hbA, hn0⟩ := W
  have hn : n ≤ 2147483647 := by omega
  obtain ⟨t, r, c9, S9, r', M1, t', M2, e1, e2, e3, hc, hI9⟩ := st k c S M ((xs (6 * (k : Int) + 1).toNat).toInt) (lx ((xs (6 * (k : Int) + 2).toNat).toInt) ((xs (6 * (k : Int) + 3).toNat).toInt)) (lx ((xs (6 * (k : Int) + 4).toNat).toInt) ((xs (6 * (k : Int) + 5).toNat).toInt)) hk hI0 (xs_R _)
  rcases hc with ⟨rfl, ht', hr⟩ | ⟨rfl, ht'⟩ | ⟨rfl, ht'⟩ | ⟨rfl, ht'⟩
  · skip
    refine jr_aload_n ok 2 d_La_law_632 rfl rfl ?_
    refine jr_aload_n ok 1 d_La_law_633 rfl rfl ?_
    refine jr_iload ok 0 d_La_law_634 rfl ?_
    refine jr_iconst ok d_La_law_636 ?_
    refine jr_iadd ok d_La_law_637 ?_
    refine jr_sld ok hX hbl hbA hn (by omega) (by omega) d_La_law_638 ?_
    refine jr_aload_n ok 1 d_La_law_639 rfl rfl ?_
    refine jr_iload ok 0 d_La_law_640 rfl ?_
    refine jr_iconst ok d_La_law_642 ?_
    refine jr_iadd ok d_La_law_643 ?_
    refine jr_sld ok hX hbl hbA hn (by omega) (by omega) d_La_law_644 ?_
    refine jr_wi2l ok rfl d_La_law_645 ?_
    refine jr_bipush ok d_La_law_646 (by decide +kernel) ?_
    refine jr_lshlx ok d_La_law_648 ?_
    refine jr_aload_n ok 1 d_La_law_649 rfl rfl ?_
    refine jr_iload ok 0 d_La_law_650 rfl ?_
    refine jr_iconst ok d_La_law_652 ?_
    refine jr_iadd ok d_La_law_653 ?_
    refine jr_sld ok hX hbl hbA hn (by omega) (by omega) d_La_law_654 ?_
    refine jr_wi2l ok rfl d_La_law_655 ?_
    refine jr_ldc2 (z := 4294967295) ok w_1807 (by decide +kernel) d_La_law_656 ?_
    refine jr_landx ok d_La_law_659 ?_
    refine jr_lorx ok d_La_law_660 ?_
    refine jr_aload_n ok 1 d_La_law_661 rfl rfl ?_
    refine jr_iload ok 0 d_La_law_662 rfl ?_
    refine jr_iconst ok d_La_law_664 ?_
    refine jr_iadd ok d_La_law_665 ?_
    refine jr_sld ok hX hbl hbA hn (by omega) (by omega) d_La_law_666 ?_
    refine jr_wi2l ok rfl d_La_law_667 ?_
    refine jr_bipush ok d_La_law_668 (by decide +kernel) ?_
    refine jr_lshlx ok d_La_law_670 ?_
    refine jr_aload_n ok 1 d_La_law_671 rfl rfl ?_
    refine jr_iload ok 0 d_La_law_672 rfl ?_
    refine jr_iconst ok d_La_law_674 ?_
    refine jr_iadd ok d_La_law_675 ?_
    refine jr_sld ok hX hbl hbA hn (by omega) (by omega) d_La_law_676 ?_
    refine jr_wi2l ok rfl d_La_law_677 ?_
    refine jr_ldc2 (z := 4294967295) ok w_1807 (by decide +kernel) d_La_law_678 ?_
    refine jr_landx ok d_La_law_681 ?_
    refine jr_lorx ok d_La_law_682 ?_
    refine jr_aload_n ok 4 d_La_law_683 rfl rfl ?_
    refine jh_callS ok hI hTT hNN m_La_113 (jgH_frame (h_La_delete (jx_l X) hnt D g A c S o fo ((xs (6 * (k : Int) + 1).toNat).toInt) (lx ((xs (6 * (k : Int) + 2).toNat).toInt) ((xs (6 * (k : Int) + 3).toNat).toInt)) (lx ((xs (6 * (k : Int) + 4).toNat).toInt) ((xs (6 * (k : Int) + 5).toNat).toInt)) 0 r c9 S9 0 (fun j => if j = 0 then ll (w32 r) else fo j) e1 (Or.inl ⟨rfl, rfl, rfl⟩)) (moL D gm M)) (fun _ => rfl) rfl rfl (Nat.le_of_ble_eq_true rfl) ⟨by rw [hR]; exact Nat.le_of_ble_eq_true rfl, by rw [hR]; exact Nat.le_of_ble_eq_true rfl⟩ ⟨by rw [hR]; show 601024 - c.bc + c.bc ≤ 601024; omega, by rw [hR]; show 7293034 - c.bs + c.bs ≤ 7293034; omega⟩ d_La_law_684 (fun A9 hφ => ?_)
    refine jr_widen (cs' := 601024 - c9.bc) (sl' := 7293034 - c9.bs) (by have := hφ.1; show 601024 - c.bc + (c.bc - c9.bc) ≤ 601024 - c9.bc; omega) (by have := hφ.2; show 7293034 - c.bs + (c.bs - c9.bs) ≤ 7293034 - c9.bs; omega) ?_
    show jw X (601024 - c9.bc) (7293034 - c9.bs) ((wtL D g A9 c9 S9 ++ [al D 2 o 1 (fun j => if j = 0 then ll (w32 r) else fo j)]) ++ moL D gm M) [(4, .int (ii (6 * (k : Int)))), (0, .ref b), (1, .ref (g 0)), (2, .ref (gm 0)), (3, .ref o)] 687 [.int (ii 0)]
    refine jr_istore [(5, .int (ii 0)), (4, .int (ii (6 * (k : Int)))), (0, .ref b), (1, .ref (g 0)), (2, .ref (gm 0)), (3, .ref o)] ok d_La_law_687 (by rw [hN]; decide) rfl ?_
    refine jr_aload_n ok 4 d_La_law_689 rfl rfl ?_
    refine jr_aload_n ok 2 d_La_law_690 rfl rfl ?_
    refine jr_iload ok 1 d_La_law_691 rfl ?_
    refine jr_iconst ok d_La_law_693 ?_
    refine jr_iadd ok d_La_law_694 ?_
    refine jr_sld ok hX hbl hbA hn (by omega) (by omega) d_La_law_695 ?_
    refine jr_aload_n ok 2 d_La_law_696 rfl rfl ?_
    refine jr_iload ok 1 d_La_law_697 rfl ?_
    refine jr_iconst ok d_La_law_699 ?_
    refine jr_iadd ok d_La_law_700 ?_
    refine jr_sld ok hX hbl hbA hn (by omega) (by omega) d_La_law_701 ?_
    refine jr_wi2l ok rfl d_La_law_702 ?_
    refine jr_bipush ok d_La_law_703 (by decide +kernel) ?_
    refine jr_lshlx ok d_La_law_705 ?_
    refine jr_aload_n ok 2 d_La_law_706 rfl rfl ?_
    refine jr_iload ok 1 d_La_law_707 rfl ?_
    refine jr_iconst ok d_La_law_709 ?_
    refine jr_iadd ok d_La_law_710 ?_
    refine jr_sld ok hX hbl hbA hn (by omega) (by omega) d_La_law_711 ?_
    refine jr_wi2l ok rfl d_La_law_712 ?_
    refine jr_ldc2 (z := 4294967295) ok w_1807 (by decide +kernel) d_La_law_713 ?_
    refine jr_landx ok d_La_law_716 ?_
    refine jr_lorx ok d_La_law_717 ?_
    refine jr_aload_n ok 2 d_La_law_718 rfl rfl ?_
    refine jr_iload ok 1 d_La_law_719 rfl ?_
    refine jr_iconst ok d_La_law_721 ?_
    refine jr_iadd ok d_La_law_722 ?_
    refine jr_sld ok hX hbl hbA hn (by omega) (by omega) d_La_law_723 ?_
    refine jr_wi2l ok rfl d_La_law_724 ?_
    refine jr_bipush ok d_La_law_725 (by decide +kernel) ?_
    refine jr_lshlx ok d_La_law_727 ?_
    refine jr_aload_n ok 2 d_La_law_728 rfl rfl ?_
    refine jr_iload ok 1 d_La_law_729 rfl ?_
    refine jr_iconst ok d_La_law_731 ?_
    refine jr_iadd ok d_La_law_732 ?_
    refine jr_sld ok hX hbl hbA hn (by omega) (by omega) d_La_law_733 ?_
    refine jr_wi2l ok rfl d_La_law_734 ?_
    refine jr_ldc2 (z := 4294967295) ok w_1807 (by decide +kernel) d_La_law_735 ?_
    refine jr_landx ok d_La_law_738 ?_
    refine jr_lorx ok d_La_law_739 ?_
    refine jr_swapL ?_
    refine jq_cV1 ok hR m_La_115 (jc_frame (c_Mo_delete (jx_l X) D gm M ((xs (6 * (k : Int) + 1).toNat).toInt) (lx ((xs (6 * (k : Int) + 2).toNat).toInt) ((xs (6 * (k : Int) + 3).toNat).toInt)) (lx ((xs (6 * (k : Int) + 4).toNat).toInt) ((xs (6 * (k : Int) + 5).toNat).toInt)) r' M1 e2) (wtL D g A9 c9 S9 ++ [al D 2 o 1 (fun j => if j = 0 then ll (w32 r) else fo j)])) (sg_atk 0 rfl) rfl rfl rfl (Nat.le_of_ble_eq_true rfl) ⟨Nat.le_of_ble_eq_true rfl, Nat.le_of_ble_eq_true rfl⟩ ⟨Nat.sub_le _ _, Nat.sub_le _ _⟩ d_La_law_740 ?_
    show jw X (601024 - c9.bc) (7293034 - c9.bs) (moL D gm M1 ++ (wtL D g A9 c9 S9 ++ [al D 2 o 1 (fun j => if j = 0 then ll (w32 r) else fo j)])) [(5, .int (ii 0)), (4, .int (ii (6 * (k : Int)))), (0, .ref b), (1, .ref (g 0)), (2, .ref (gm 0)), (3, .ref o)] 743 [.int (ii r')]
    refine jr_swapL ?_
    refine jr_istore [(6, .int (ii r')), (5, .int (ii 0)), (4, .int (ii (6 * (k : Int)))), (0, .ref b), (1, .ref (g 0)), (2, .ref (gm 0)), (3, .ref o)] ok d_La_law_743 (by rw [hN]; decide) rfl ?_
    refine jr_aload_n ok 5 d_La_law_745 rfl rfl ?_
    refine jr_swapL ?_
    refine jq_cV1 ok hR m_La_85 (jc_frame (c_Mo_thrown (jx_l X) D gm M1 t' M2 e3) (wtL D g A9 c9 S9 ++ [al D 2 o 1 (fun j => if j = 0 then ll (w32 r) else fo j)])) (sg_atk 0 rfl) rfl rfl rfl (Nat.le_of_ble_eq_true rfl) ⟨Nat.le_of_ble_eq_true rfl, Nat.le_of_ble_eq_true rfl⟩ ⟨Nat.sub_le _ _, Nat.sub_le _ _⟩ d_La_law_746 ?_
    show jw X (601024 - c9.bc) (7293034 - c9.bs) (moL D gm M2 ++ (wtL D g A9 c9 S9 ++ [al D 2 o 1 (fun j => if j = 0 then ll (w32 r) else fo j)])) [(6, .int (ii r')), (5, .int (ii 0)), (4, .int (ii (6 * (k : Int)))), (0, .ref b), (1, .ref (g 0)), (2, .ref (gm 0)), (3, .ref o)] 749 [.int (ii t')]
    refine jr_swapL ?_
    refine jr_iload ok 1 d_La_law_749 rfl ?_
    refine jr_wicmp_eq 756 ok ht' (show w32 0 = 0 by decide) d_La_law_751 (by decide) (fun _ => ?_) (fun z => absurd rfl z)
    refine jr_iload ok 1 d_La_law_756 rfl ?_
    refine jr_wif_ne 773 ok (show w32 0 = 0 by decide) d_La_law_758 (by decide) (fun z => absurd rfl z) (fun _ => ?_)
    refine jr_aload_n ok 6 d_La_law_761 rfl rfl ?_
    refine jr_iconst ok d_La_law_762 ?_
    refine jr_lald ok 24 rfl rfl (by decide) (by decide) d_La_law_763 ?_
    show jw X (601024 - c9.bc) (7293034 - c9.bs) ((wtL D g A9 c9 S9 ++ [al D 2 o 1 (fun j => if j = 0 then ll (w32 r) else fo j)]) ++ moL D gm M2) [(6, .int (ii r')), (5, .int (ii 0)), (4, .int (ii (6 * (k : Int)))), (0, .ref b), (1, .ref (g 0)), (2, .ref (gm 0)), (3, .ref o)] 764 [.long (ll (w32 r))]
    refine jr_iload ok 0 d_La_law_764 rfl ?_
    refine jr_wi2l ok rfl d_La_law_766 ?_
    refine jr_lif_eq 773 ok rfl (show (ll (w32 r')).toInt = (ll (w32 r)).toInt by rw [hr]) d_La_law_767 d_La_law_768 (by decide) (fun _ => ?_) (fun z => absurd rfl z)
    refine jr_goto 1398 ok d_La_law_773 (by decide) ?_
    exact jr_lv [2, 3, 4, 5, 6] rfl (next A9 c9 S9 (fun j => if j = 0 then ll (w32 r) else fo j) M2 ⟨Nat.le_trans hφ.1 hcc.1, Nat.le_trans hφ.2 hcc.2⟩ hI9)
  · skip
    refine jr_aload_n ok 2 d_La_law_632 rfl rfl ?_
    refine jr_aload_n ok 1 d_La_law_633 rfl rfl ?_
    refine jr_iload ok 0 d_La_law_634 rfl ?_
    refine jr_iconst ok d_La_law_636 ?_
    refine jr_iadd ok d_La_law_637 ?_
    refine jr_sld ok hX hbl hbA hn (by omega) (by omega) d_La_law_638 ?_
    refine jr_aload_n ok 1 d_La_law_639 rfl rfl ?_
    refine jr_iload ok 0 d_La_law_640 rfl ?_
    refine jr_iconst ok d_La_law_642 ?_
    refine jr_iadd ok d_La_law_643 ?_
    refine jr_sld ok hX hbl hbA hn (by omega) (by omega) d_La_law_644 ?_
    refine jr_wi2l ok rfl d_La_law_645 ?_
    refine jr_bipush ok d_La_law_646 (by decide +kernel) ?_
    refine jr_lshlx ok d_La_law_648 ?_
    refine jr_aload_n ok 1 d_La_law_649 rfl rfl ?_
    refine jr_iload ok 0 d_La_law_650 rfl ?_
    refine jr_iconst ok d_La_law_652 ?_
    refine jr_iadd ok d_La_law_653 ?_
    refine jr_sld ok hX hbl hbA hn (by omega) (by omega) d_La_law_654 ?_
    refine jr_wi2l ok rfl d_La_law_655 ?_
    refine jr_ldc2 (z := 4294967295) ok w_1807 (by decide +kernel) d_La_law_656 ?_
    refine jr_landx ok d_La_law_659 ?_
    refine jr_lorx ok d_La_law_660 ?_
    refine jr_aload_n ok 1 d_La_law_661 rfl rfl ?_
    refine jr_iload ok 0 d_La_law_662 rfl ?_
    refine jr_iconst ok d_La_law_664 ?_
    refine jr_iadd ok d_La_law_665 ?_
    refine jr_sld ok hX hbl hbA hn (by omega) (by omega) d_La_law_666 ?_
    refine jr_wi2l ok rfl d_La_law_667 ?_
    refine jr_bipush ok d_La_law_668 (by decide +kernel) ?_
    refine jr_lshlx ok d_La_law_670 ?_
    refine jr_aload_n ok 1 d_La_law_671 rfl rfl ?_
    refine jr_iload ok 0 d_La_law_672 rfl ?_
    refine jr_iconst ok d_La_law_674 ?_
    refine jr_iadd ok d_La_law_675 ?_
    refine jr_sld ok hX hbl hbA hn (by omega) (by omega) d_La_law_676 ?_
    refine jr_wi2l ok rfl d_La_law_677 ?_
    refine jr_ldc2 (z := 4294967295) ok w_1807 (by decide +kernel) d_La_law_678 ?_
    refine jr_landx ok d_La_law_681 ?_
    refine jr_lorx ok d_La_law_682 ?_
    refine jr_aload_n ok 4 d_La_law_683 rfl rfl ?_
    refine jh_callS ok hI hTT hNN m_La_113 (jgH_frame (h_La_delete (jx_l X) hnt D g A c S o fo ((xs (6 * (k : Int) + 1).toNat).toInt) (lx ((xs (6 * (k : Int) + 2).toNat).toInt) ((xs (6 * (k : Int) + 3).toNat).toInt)) (lx ((xs (6 * (k : Int) + 4).toNat).toInt) ((xs (6 * (k : Int) + 5).toNat).toInt)) 3 r c9 S9 1 fo e1 (Or.inr (Or.inl ⟨rfl, rfl, rfl⟩))) (moL D gm M)) (fun _ => rfl) rfl rfl (Nat.le_of_ble_eq_true rfl) ⟨by rw [hR]; exact Nat.le_of_ble_eq_true rfl, by rw [hR]; exact Nat.le_of_ble_eq_true rfl⟩ ⟨by rw [hR]; show 601024 - c.bc + c.bc ≤ 601024; omega, by rw [hR]; show 7293034 - c.bs + c.bs ≤ 7293034; omega⟩ d_La_law_684 (fun A9 hφ => ?_)
    refine jr_widen (cs' := 601024 - c9.bc) (sl' := 7293034 - c9.bs) (by have := hφ.1; show 601024 - c.bc + (c.bc - c9.bc) ≤ 601024 - c9.bc; omega) (by have := hφ.2; show 7293034 - c.bs + (c.bs - c9.bs) ≤ 7293034 - c9.bs; omega) ?_
    show jw X (601024 - c9.bc) (7293034 - c9.bs) ((wtL D g A9 c9 S9 ++ [al D 2 o 1 fo]) ++ moL D gm M) [(4, .int (ii (6 * (k : Int)))), (0, .ref b), (1, .ref (g 0)), (2, .ref (gm 0)), (3, .ref o)] 687 [.int (ii 1)]
    refine jr_istore [(5, .int (ii 1)), (4, .int (ii (6 * (k : Int)))), (0, .ref b), (1, .ref (g 0)), (2, .ref (gm 0)), (3, .ref o)] ok d_La_law_687 (by rw [hN]; decide) rfl ?_
    refine jr_aload_n ok 4 d_La_law_689 rfl rfl ?_
    refine jr_aload_n ok 2 d_La_law_690 rfl rfl ?_
    refine jr_iload ok 1 d_La_law_691 rfl ?_
    refine jr_iconst ok d_La_law_693 ?_
    refine jr_iadd ok d_La_law_694 ?_
    refine jr_sld ok hX hbl hbA hn (by omega) (by omega) d_La_law_695 ?_
    refine jr_aload_n ok 2 d_La_law_696 rfl rfl ?_
    refine jr_iload ok 1 d_La_law_697 rfl ?_
    refine jr_iconst ok d_La_law_699 ?_
    refine jr_iadd ok d_La_law_700 ?_
    refine jr_sld ok hX hbl hbA hn (by omega) (by omega) d_La_law_701 ?_
    refine jr_wi2l ok rfl d_La_law_702 ?_
    refine jr_bipush ok d_La_law_703 (by decide +kernel) ?_
    refine jr_lshlx ok d_La_law_705 ?_
    refine jr_aload_n ok 2 d_La_law_706 rfl rfl ?_
    refine jr_iload ok 1 d_La_law_707 rfl ?_
    refine jr_iconst ok d_La_law_709 ?_
    refine jr_iadd ok d_La_law_710 ?_
    refine jr_sld ok hX hbl hbA hn (by omega) (by omega) d_La_law_711 ?_
    refine jr_wi2l ok rfl d_La_law_712 ?_
    refine jr_ldc2 (z := 4294967295) ok w_1807 (by decide +kernel) d_La_law_713 ?_
    refine jr_landx ok d_La_law_716 ?_
    refine jr_lorx ok d_La_law_717 ?_
    refine jr_aload_n ok 2 d_La_law_718 rfl rfl ?_
    refine jr_iload ok 1 d_La_law_719 rfl ?_
    refine jr_iconst ok d_La_law_721 ?_
    refine jr_iadd ok d_La_law_722 ?_
    refine jr_sld ok hX hbl hbA hn (by omega) (by omega) d_La_law_723 ?_
    refine jr_wi2l ok rfl d_La_law_724 ?_
    refine jr_bipush ok d_La_law_725 (by decide +kernel) ?_
    refine jr_lshlx ok d_La_law_727 ?_
    refine jr_aload_n ok 2 d_La_law_728 rfl rfl ?_
    refine jr_iload ok 1 d_La_law_729 rfl ?_
    refine jr_iconst ok d_La_law_731 ?_
    refine jr_iadd ok d_La_law_732 ?_
    refine jr_sld ok hX hbl hbA hn (by omega) (by omega) d_La_law_733 ?_
    refine jr_wi2l ok rfl d_La_law_734 ?_
    refine jr_ldc2 (z := 4294967295) ok w_1807 (by decide +kernel) d_La_law_735 ?_
    refine jr_landx ok d_La_law_738 ?_
    refine jr_lorx ok d_La_law_739 ?_
    refine jr_swapL ?_
    refine jq_cV1 ok hR m_La_115 (jc_frame (c_Mo_delete (jx_l X) D gm M ((xs (6 * (k : Int) + 1).toNat).toInt) (lx ((xs (6 * (k : Int) + 2).toNat).toInt) ((xs (6 * (k : Int) + 3).toNat).toInt)) (lx ((xs (6 * (k : Int) + 4).toNat).toInt) ((xs (6 * (k : Int) + 5).toNat).toInt)) r' M1 e2) (wtL D g A9 c9 S9 ++ [al D 2 o 1 fo])) (sg_atk 0 rfl) rfl rfl rfl (Nat.le_of_ble_eq_true rfl) ⟨Nat.le_of_ble_eq_true rfl, Nat.le_of_ble_eq_true rfl⟩ ⟨Nat.sub_le _ _, Nat.sub_le _ _⟩ d_La_law_740 ?_
    show jw X (601024 - c9.bc) (7293034 - c9.bs) (moL D gm M1 ++ (wtL D g A9 c9 S9 ++ [al D 2 o 1 fo])) [(5, .int (ii 1)), (4, .int (ii (6 * (k : Int)))), (0, .ref b), (1, .ref (g 0)), (2, .ref (gm 0)), (3, .ref o)] 743 [.int (ii r')]
    refine jr_swapL ?_
    refine jr_istore [(6, .int (ii r')), (5, .int (ii 1)), (4, .int (ii (6 * (k : Int)))), (0, .ref b), (1, .ref (g 0)), (2, .ref (gm 0)), (3, .ref o)] ok d_La_law_743 (by rw [hN]; decide) rfl ?_
    refine jr_aload_n ok 5 d_La_law_745 rfl rfl ?_
    refine jr_swapL ?_
    refine jq_cV1 ok hR m_La_85 (jc_frame (c_Mo_thrown (jx_l X) D gm M1 t' M2 e3) (wtL D g A9 c9 S9 ++ [al D 2 o 1 fo])) (sg_atk 0 rfl) rfl rfl rfl (Nat.le_of_ble_eq_true rfl) ⟨Nat.le_of_ble_eq_true rfl, Nat.le_of_ble_eq_true rfl⟩ ⟨Nat.sub_le _ _, Nat.sub_le _ _⟩ d_La_law_746 ?_
    show jw X (601024 - c9.bc) (7293034 - c9.bs) (moL D gm M2 ++ (wtL D g A9 c9 S9 ++ [al D 2 o 1 fo])) [(6, .int (ii r')), (5, .int (ii 1)), (4, .int (ii (6 * (k : Int)))), (0, .ref b), (1, .ref (g 0)), (2, .ref (gm 0)), (3, .ref o)] 749 [.int (ii t')]
    refine jr_swapL ?_
    refine jr_iload ok 1 d_La_law_749 rfl ?_
    refine jr_wicmp_eq 756 ok ht' (show w32 1 = 1 by decide) d_La_law_751 (by decide) (fun _ => ?_) (fun z => absurd rfl z)
    refine jr_iload ok 1 d_La_law_756 rfl ?_
    refine jr_wif_ne 773 ok (show w32 1 = 1 by decide) d_La_law_758 (by decide) (fun _ => ?_) (fun z => absurd z (by decide))
    refine jr_goto 1398 ok d_La_law_773 (by decide) ?_
    exact jr_lv [2, 3, 4, 5, 6] rfl (next A9 c9 S9 fo M2 ⟨Nat.le_trans hφ.1 hcc.1, Nat.le_trans hφ.2 hcc.2⟩ hI9)
  · skip
    refine jr_aload_n ok 2 d_La_law_632 rfl rfl ?_
    refine jr_aload_n ok 1 d_La_law_633 rfl rfl ?_
    refine jr_iload ok 0 d_La_law_634 rfl ?_
    refine jr_iconst ok d_La_law_636 ?_
    refine jr_iadd ok d_La_law_637 ?_
    refine jr_sld ok hX hbl hbA hn (by omega) (by omega) d_La_law_638 ?_
    refine jr_aload_n ok 1 d_La_law_639 rfl rfl ?_
    refine jr_iload ok 0 d_La_law_640 rfl ?_
    refine jr_iconst ok d_La_law_642 ?_
    refine jr_iadd ok d_La_law_643 ?_
    refine jr_sld ok hX hbl hbA hn (by omega) (by omega) d_La_law_644 ?_
    refine jr_wi2l ok rfl d_La_law_645 ?_
    refine jr_bipush ok d_La_law_646 (by decide +kernel) ?_
    refine jr_lshlx ok d_La_law_648 ?_
    refine jr_aload_n ok 1 d_La_law_649 rfl rfl ?_
    refine jr_iload ok 0 d_La_law_650 rfl ?_
    refine jr_iconst ok d_La_law_652 ?_
    refine jr_iadd ok d_La_law_653 ?_
    refine jr_sld ok hX hbl hbA hn (by omega) (by omega) d_La_law_654 ?_
    refine jr_wi2l ok rfl d_La_law_655 ?_
    refine jr_ldc2 (z := 4294967295) ok w_1807 (by decide +kernel) d_La_law_656 ?_
    refine jr_landx ok d_La_law_659 ?_
    refine jr_lorx ok d_La_law_660 ?_
    refine jr_aload_n ok 1 d_La_law_661 rfl rfl ?_
    refine jr_iload ok 0 d_La_law_662 rfl ?_
    refine jr_iconst ok d_La_law_664 ?_
    refine jr_iadd ok d_La_law_665 ?_
    refine jr_sld ok hX hbl hbA hn (by omega) (by omega) d_La_law_666 ?_
    refine jr_wi2l ok rfl d_La_law_667 ?_
    refine jr_bipush ok d_La_law_668 (by decide +kernel) ?_
    refine jr_lshlx ok d_La_law_670 ?_
    refine jr_aload_n ok 1 d_La_law_671 rfl rfl ?_
    refine jr_iload ok 0 d_La_law_672 rfl ?_
    refine jr_iconst ok d_La_law_674 ?_
    refine jr_iadd ok d_La_law_675 ?_
    refine jr_sld ok hX hbl hbA hn (by omega) (by omega) d_La_law_676 ?_
    refine jr_wi2l ok rfl d_La_law_677 ?_
    refine jr_ldc2 (z := 4294967295) ok w_1807 (by decide +kernel) d_La_law_678 ?_
    refine jr_landx ok d_La_law_681 ?_
    refine jr_lorx ok d_La_law_682 ?_
    refine jr_aload_n ok 4 d_La_law_683 rfl rfl ?_
    refine jh_callS ok hI hTT hNN m_La_113 (jgH_frame (h_La_delete (jx_l X) hnt D g A c S o fo ((xs (6 * (k : Int) + 1).toNat).toInt) (lx ((xs (6 * (k : Int) + 2).toNat).toInt) ((xs (6 * (k : Int) + 3).toNat).toInt)) (lx ((xs (6 * (k : Int) + 4).toNat).toInt) ((xs (6 * (k : Int) + 5).toNat).toInt)) 2 r c9 S9 2 fo e1 (Or.inr (Or.inr (Or.inl ⟨rfl, rfl, rfl⟩)))) (moL D gm M)) (fun _ => rfl) rfl rfl (Nat.le_of_ble_eq_true rfl) ⟨by rw [hR]; exact Nat.le_of_ble_eq_true rfl, by rw [hR]; exact Nat.le_of_ble_eq_true rfl⟩ ⟨by rw [hR]; show 601024 - c.bc + c.bc ≤ 601024; omega, by rw [hR]; show 7293034 - c.bs + c.bs ≤ 7293034; omega⟩ d_La_law_684 (fun A9 hφ => ?_)
    refine jr_widen (cs' := 601024 - c9.bc) (sl' := 7293034 - c9.bs) (by have := hφ.1; show 601024 - c.bc + (c.bc - c9.bc) ≤ 601024 - c9.bc; omega) (by have := hφ.2; show 7293034 - c.bs + (c.bs - c9.bs) ≤ 7293034 - c9.bs; omega) ?_
    show jw X (601024 - c9.bc) (7293034 - c9.bs) ((wtL D g A9 c9 S9 ++ [al D 2 o 1 fo]) ++ moL D gm M) [(4, .int (ii (6 * (k : Int)))), (0, .ref b), (1, .ref (g 0)), (2, .ref (gm 0)), (3, .ref o)] 687 [.int (ii 2)]
    refine jr_istore [(5, .int (ii 2)), (4, .int (ii (6 * (k : Int)))), (0, .ref b), (1, .ref (g 0)), (2, .ref (gm 0)), (3, .ref o)] ok d_La_law_687 (by rw [hN]; decide) rfl ?_
    refine jr_aload_n ok 4 d_La_law_689 rfl rfl ?_
    refine jr_aload_n ok 2 d_La_law_690 rfl rfl ?_
    refine jr_iload ok 1 d_La_law_691 rfl ?_
    refine jr_iconst ok d_La_law_693 ?_
    refine jr_iadd ok d_La_law_694 ?_
    refine jr_sld ok hX hbl hbA hn (by omega) (by omega) d_La_law_695 ?_
    refine jr_aload_n ok 2 d_La_law_696 rfl rfl ?_
    refine jr_iload ok 1 d_La_law_697 rfl ?_
    refine jr_iconst ok d_La_law_699 ?_
    refine jr_iadd ok d_La_law_700 ?_
    refine jr_sld ok hX hbl hbA hn (by omega) (by omega) d_La_law_701 ?_
    refine jr_wi2l ok rfl d_La_law_702 ?_
    refine jr_bipush ok d_La_law_703 (by decide +kernel) ?_
    refine jr_lshlx ok d_La_law_705 ?_
    refine jr_aload_n ok 2 d_La_law_706 rfl rfl ?_
    refine jr_iload ok 1 d_La_law_707 rfl ?_
    refine jr_iconst ok d_La_law_709 ?_
    refine jr_iadd ok d_La_law_710 ?_
    refine jr_sld ok hX hbl hbA hn (by omega) (by omega) d_La_law_711 ?_
    refine jr_wi2l ok rfl d_La_law_712 ?_
    refine jr_ldc2 (z := 4294967295) ok w_1807 (by decide +kernel) d_La_law_713 ?_
    refine jr_landx ok d_La_law_716 ?_
    refine jr_lorx ok d_La_law_717 ?_
    refine jr_aload_n ok 2 d_La_law_718 rfl rfl ?_
    refine jr_iload ok 1 d_La_law_719 rfl ?_
    refine jr_iconst ok d_La_law_721 ?_
    refine jr_iadd ok d_La_law_722 ?_
    refine jr_sld ok hX hbl hbA hn (by omega) (by omega) d_La_law_723 ?_
    refine jr_wi2l ok rfl d_La_law_724 ?_
    refine jr_bipush ok d_La_law_725 (by decide +kernel) ?_
    refine jr_lshlx ok d_La_law_727 ?_
    refine jr_aload_n ok 2 d_La_law_728 rfl rfl ?_
    refine jr_iload ok 1 d_La_law_729 rfl ?_
    refine jr_iconst ok d_La_law_731 ?_
    refine jr_iadd ok d_La_law_732 ?_
    refine jr_sld ok hX hbl hbA hn (by omega) (by omega) d_La_law_733 ?_
    refine jr_wi2l ok rfl d_La_law_734 ?_
    refine jr_ldc2 (z := 4294967295) ok w_1807 (by decide +kernel) d_La_law_735 ?_
    refine jr_landx ok d_La_law_738 ?_
    refine jr_lorx ok d_La_law_739 ?_
    refine jr_swapL ?_
    refine jq_cV1 ok hR m_La_115 (jc_frame (c_Mo_delete (jx_l X) D gm M ((xs (6 * (k : Int) + 1).toNat).toInt) (lx ((xs (6 * (k : Int) + 2).toNat).toInt) ((xs (6 * (k : Int) + 3).toNat).toInt)) (lx ((xs (6 * (k : Int) + 4).toNat).toInt) ((xs (6 * (k : Int) + 5).toNat).toInt)) r' M1 e2) (wtL D g A9 c9 S9 ++ [al D 2 o 1 fo])) (sg_atk 0 rfl) rfl rfl rfl (Nat.le_of_ble_eq_true rfl) ⟨Nat.le_of_ble_eq_true rfl, Nat.le_of_ble_eq_true rfl⟩ ⟨Nat.sub_le _ _, Nat.sub_le _ _⟩ d_La_law_740 ?_
    show jw X (601024 - c9.bc) (7293034 - c9.bs) (moL D gm M1 ++ (wtL D g A9 c9 S9 ++ [al D 2 o 1 fo])) [(5, .int (ii 2)), (4, .int (ii (6 * (k : Int)))), (0, .ref b), (1, .ref (g 0)), (2, .ref (gm 0)), (3, .ref o)] 743 [.int (ii r')]
    refine jr_swapL ?_
    refine jr_istore [(6, .int (ii r')), (5, .int (ii 2)), (4, .int (ii (6 * (k : Int)))), (0, .ref b), (1, .ref (g 0)), (2, .ref (gm 0)), (3, .ref o)] ok d_La_law_743 (by rw [hN]; decide) rfl ?_
    refine jr_aload_n ok 5 d_La_law_745 rfl rfl ?_
    refine jr_swapL ?_
    refine jq_cV1 ok hR m_La_85 (jc_frame (c_Mo_thrown (jx_l X) D gm M1 t' M2 e3) (wtL D g A9 c9 S9 ++ [al D 2 o 1 fo])) (sg_atk 0 rfl) rfl rfl rfl (Nat.le_of_ble_eq_true rfl) ⟨Nat.le_of_ble_eq_true rfl, Nat.le_of_ble_eq_true rfl⟩ ⟨Nat.sub_le _ _, Nat.sub_le _ _⟩ d_La_law_746 ?_
    show jw X (601024 - c9.bc) (7293034 - c9.bs) (moL D gm M2 ++ (wtL D g A9 c9 S9 ++ [al D 2 o 1 fo])) [(6, .int (ii r')), (5, .int (ii 2)), (4, .int (ii (6 * (k : Int)))), (0, .ref b), (1, .ref (g 0)), (2, .ref (gm 0)), (3, .ref o)] 749 [.int (ii t')]
    refine jr_swapL ?_
    refine jr_iload ok 1 d_La_law_749 rfl ?_
    refine jr_wicmp_eq 756 ok ht' (show w32 2 = 2 by decide) d_La_law_751 (by decide) (fun _ => ?_) (fun z => absurd rfl z)
    refine jr_iload ok 1 d_La_law_756 rfl ?_
    refine jr_wif_ne 773 ok (show w32 2 = 2 by decide) d_La_law_758 (by decide) (fun _ => ?_) (fun z => absurd z (by decide))
    refine jr_goto 1398 ok d_La_law_773 (by decide) ?_
    exact jr_lv [2, 3, 4, 5, 6] rfl (next A9 c9 S9 fo M2 ⟨Nat.le_trans hφ.1 hcc.1, Nat.le_trans hφ.2 hcc.2⟩ hI9)
  · skip
    refine jr_aload_n ok 2 d_La_law_632 rfl rfl ?_
    refine jr_aload_n ok 1 d_La_law_633 rfl rfl ?_
    refine jr_iload ok 0 d_La_law_634 rfl ?_
    refine jr_iconst ok d_La_law_636 ?_
    refine jr_iadd ok d_La_law_637 ?_
    refine jr_sld ok hX hbl hbA hn (by omega) (by omega) d_La_law_638 ?_
    refine jr_aload_n ok 1 d_La_law_639 rfl rfl ?_
    refine jr_iload ok 0 d_La_law_640 rfl ?_
    refine jr_iconst ok d_La_law_642 ?_
    refine jr_iadd ok d_La_law_643 ?_
    refine jr_sld ok hX hbl hbA hn (by omega) (by omega) d_La_law_644 ?_
    refine jr_wi2l ok rfl d_La_law_645 ?_
    refine jr_bipush ok d_La_law_646 (by decide +kernel) ?_
    refine jr_lshlx ok d_La_law_648 ?_
    refine jr_aload_n ok 1 d_La_law_649 rfl rfl ?_
    refine jr_iload ok 0 d_La_law_650 rfl ?_
    refine jr_iconst ok d_La_law_652 ?_
    refine jr_iadd ok d_La_law_653 ?_
    refine jr_sld ok hX hbl hbA hn (by omega) (by omega) d_La_law_654 ?_
    refine jr_wi2l ok rfl d_La_law_655 ?_
    refine jr_ldc2 (z := 4294967295) ok w_1807 (by decide +kernel) d_La_law_656 ?_
    refine jr_landx ok d_La_law_659 ?_
    refine jr_lorx ok d_La_law_660 ?_
    refine jr_aload_n ok 1 d_La_law_661 rfl rfl ?_
    refine jr_iload ok 0 d_La_law_662 rfl ?_
    refine jr_iconst ok d_La_law_664 ?_
    refine jr_iadd ok d_La_law_665 ?_
    refine jr_sld ok hX hbl hbA hn (by omega) (by omega) d_La_law_666 ?_
    refine jr_wi2l ok rfl d_La_law_667 ?_
    refine jr_bipush ok d_La_law_668 (by decide +kernel) ?_
    refine jr_lshlx ok d_La_law_670 ?_
    refine jr_aload_n ok 1 d_La_law_671 rfl rfl ?_
    refine jr_iload ok 0 d_La_law_672 rfl ?_
    refine jr_iconst ok d_La_law_674 ?_
    refine jr_iadd ok d_La_law_675 ?_
    refine jr_sld ok hX hbl hbA hn (by omega) (by omega) d_La_law_676 ?_
    refine jr_wi2l ok rfl d_La_law_677 ?_
    refine jr_ldc2 (z := 4294967295) ok w_1807 (by decide +kernel) d_La_law_678 ?_
    refine jr_landx ok d_La_law_681 ?_
    refine jr_lorx ok d_La_law_682 ?_
    refine jr_aload_n ok 4 d_La_law_683 rfl rfl ?_
    refine jh_callS ok hI hTT hNN m_La_113 (jgH_frame (h_La_delete (jx_l X) hnt D g A c S o fo ((xs (6 * (k : Int) + 1).toNat).toInt) (lx ((xs (6 * (k : Int) + 2).toNat).toInt) ((xs (6 * (k : Int) + 3).toNat).toInt)) (lx ((xs (6 * (k : Int) + 4).toNat).toInt) ((xs (6 * (k : Int) + 5).toNat).toInt)) 1 r c9 S9 3 fo e1 (Or.inr (Or.inr (Or.inr ⟨rfl, rfl, rfl⟩)))) (moL D gm M)) (fun _ => rfl) rfl rfl (Nat.le_of_ble_eq_true rfl) ⟨by rw [hR]; exact Nat.le_of_ble_eq_true rfl, by rw [hR]; exact Nat.le_of_ble_eq_true rfl⟩ ⟨by rw [hR]; show 601024 - c.bc + c.bc ≤ 601024; omega, by rw [hR]; show 7293034 - c.bs + c.bs ≤ 7293034; omega⟩ d_La_law_684 (fun A9 hφ => ?_)
    refine jr_widen (cs' := 601024 - c9.bc) (sl' := 7293034 - c9.bs) (by have := hφ.1; show 601024 - c.bc + (c.bc - c9.bc) ≤ 601024 - c9.bc; omega) (by have := hφ.2; show 7293034 - c.bs + (c.bs - c9.bs) ≤ 7293034 - c9.bs; omega) ?_
    show jw X (601024 - c9.bc) (7293034 - c9.bs) ((wtL D g A9 c9 S9 ++ [al D 2 o 1 fo]) ++ moL D gm M) [(4, .int (ii (6 * (k : Int)))), (0, .ref b), (1, .ref (g 0)), (2, .ref (gm 0)), (3, .ref o)] 687 [.int (ii 3)]
    refine jr_istore [(5, .int (ii 3)), (4, .int (ii (6 * (k : Int)))), (0, .ref b), (1, .ref (g 0)), (2, .ref (gm 0)), (3, .ref o)] ok d_La_law_687 (by rw [hN]; decide) rfl ?_
    refine jr_aload_n ok 4 d_La_law_689 rfl rfl ?_
    refine jr_aload_n ok 2 d_La_law_690 rfl rfl ?_
    refine jr_iload ok 1 d_La_law_691 rfl ?_
    refine jr_iconst ok d_La_law_693 ?_
    refine jr_iadd ok d_La_law_694 ?_
    refine jr_sld ok hX hbl hbA hn (by omega) (by omega) d_La_law_695 ?_
    refine jr_aload_n ok 2 d_La_law_696 rfl rfl ?_
    refine jr_iload ok 1 d_La_law_697 rfl ?_
    refine jr_iconst ok d_La_law_699 ?_
    refine jr_iadd ok d_La_law_700 ?_
    refine jr_sld ok hX hbl hbA hn (by omega) (by omega) d_La_law_701 ?_
    refine jr_wi2l ok rfl d_La_law_702 ?_
    refine jr_bipush ok d_La_law_703 (by decide +kernel) ?_
    refine jr_lshlx ok d_La_law_705 ?_
    refine jr_aload_n ok 2 d_La_law_706 rfl rfl ?_
    refine jr_iload ok 1 d_La_law_707 rfl ?_
    refine jr_iconst ok d_La_law_709 ?_
    refine jr_iadd ok d_La_law_710 ?_
    refine jr_sld ok hX hbl hbA hn (by omega) (by omega) d_La_law_711 ?_
    refine jr_wi2l ok rfl d_La_law_712 ?_
    refine jr_ldc2 (z := 4294967295) ok w_1807 (by decide +kernel) d_La_law_713 ?_
    refine jr_landx ok d_La_law_716 ?_
    refine jr_lorx ok d_La_law_717 ?_
    refine jr_aload_n ok 2 d_La_law_718 rfl rfl ?_
    refine jr_iload ok 1 d_La_law_719 rfl ?_
    refine jr_iconst ok d_La_law_721 ?_
    refine jr_iadd ok d_La_law_722 ?_
    refine jr_sld ok hX hbl hbA hn (by omega) (by omega) d_La_law_723 ?_
    refine jr_wi2l ok rfl d_La_law_724 ?_
    refine jr_bipush ok d_La_law_725 (by decide +kernel) ?_
    refine jr_lshlx ok d_La_law_727 ?_
    refine jr_aload_n ok 2 d_La_law_728 rfl rfl ?_
    refine jr_iload ok 1 d_La_law_729 rfl ?_
    refine jr_iconst ok d_La_law_731 ?_
    refine jr_iadd ok d_La_law_732 ?_
    refine jr_sld ok hX hbl hbA hn (by omega) (by omega) d_La_law_733 ?_
    refine jr_wi2l ok rfl d_La_law_734 ?_
    refine jr_ldc2 (z := 4294967295) ok w_1807 (by decide +kernel) d_La_law_735 ?_
    refine jr_landx ok d_La_law_738 ?_
    refine jr_lorx ok d_La_law_739 ?_
    refine jr_swapL ?_
    refine jq_cV1 ok hR m_La_115 (jc_frame (c_Mo_delete (jx_l X) D gm M ((xs (6 * (k : Int) + 1).toNat).toInt) (lx ((xs (6 * (k : Int) + 2).toNat).toInt) ((xs (6 * (k : Int) + 3).toNat).toInt)) (lx ((xs (6 * (k : Int) + 4).toNat).toInt) ((xs (6 * (k : Int) + 5).toNat).toInt)) r' M1 e2) (wtL D g A9 c9 S9 ++ [al D 2 o 1 fo])) (sg_atk 0 rfl) rfl rfl rfl (Nat.le_of_ble_eq_true rfl) ⟨Nat.le_of_ble_eq_true rfl, Nat.le_of_ble_eq_true rfl⟩ ⟨Nat.sub_le _ _, Nat.sub_le _ _⟩ d_La_law_740 ?_
    show jw X (601024 - c9.bc) (7293034 - c9.bs) (moL D gm M1 ++ (wtL D g A9 c9 S9 ++ [al D 2 o 1 fo])) [(5, .int (ii 3)), (4, .int (ii (6 * (k : Int)))), (0, .ref b), (1, .ref (g 0)), (2, .ref (gm 0)), (3, .ref o)] 743 [.int (ii r')]
    refine jr_swapL ?_
    refine jr_istore [(6, .int (ii r')), (5, .int (ii 3)), (4, .int (ii (6 * (k : Int)))), (0, .ref b), (1, .ref (g 0)), (2, .ref (gm 0)), (3, .ref o)] ok d_La_law_743 (by rw [hN]; decide) rfl ?_
    refine jr_aload_n ok 5 d_La_law_745 rfl rfl ?_
    refine jr_swapL ?_
    refine jq_cV1 ok hR m_La_85 (jc_frame (c_Mo_thrown (jx_l X) D gm M1 t' M2 e3) (wtL D g A9 c9 S9 ++ [al D 2 o 1 fo])) (sg_atk 0 rfl) rfl rfl rfl (Nat.le_of_ble_eq_true rfl) ⟨Nat.le_of_ble_eq_true rfl, Nat.le_of_ble_eq_true rfl⟩ ⟨Nat.sub_le _ _, Nat.sub_le _ _⟩ d_La_law_746 ?_
    show jw X (601024 - c9.bc) (7293034 - c9.bs) (moL D gm M2 ++ (wtL D g A9 c9 S9 ++ [al D 2 o 1 fo])) [(6, .int (ii r')), (5, .int (ii 3)), (4, .int (ii (6 * (k : Int)))), (0, .ref b), (1, .ref (g 0)), (2, .ref (gm 0)), (3, .ref o)] 749 [.int (ii t')]
    refine jr_swapL ?_
    refine jr_iload ok 1 d_La_law_749 rfl ?_
    refine jr_wicmp_eq 756 ok ht' (show w32 3 = 3 by decide) d_La_law_751 (by decide) (fun _ => ?_) (fun z => absurd rfl z)
    refine jr_iload ok 1 d_La_law_756 rfl ?_
    refine jr_wif_ne 773 ok (show w32 3 = 3 by decide) d_La_law_758 (by decide) (fun _ => ?_) (fun z => absurd z (by decide))
    refine jr_goto 1398 ok d_La_law_773 (by decide) ?_
    exact jr_lv [2, 3, 4, 5, 6] rfl (next A9 c9 S9 fo M2 ⟨Nat.le_trans hφ.1 hcc.1, Nat.le_trans hφ.2 hcc.2⟩ hI9)

set_option maxHeartbeats 4000000 in
set_option maxRecDepth 100000 in
theorem lc_retain {I : Nat → CW → WS → MS → Prop} (st : st_retain I) {X : jx_T} {D : jd_T} {b n o : Nat} {xs : Nat → Int32} {g gm : Nat → Nat} (W : lawW X D b n xs) {k : Nat} {A : AW} {c : CW} {S : WS} {fo : Int → Int64} {M : MS} (hk : k < 512) (hkn : 6 * (k : Int) + 6 ≤ (n : Int)) (hcc : c.bc ≤ 601024 ∧ c.bs ≤ 7293034) (hI0 : I k c S M) (next : ∀ (A : AW) (c : CW) (S : WS) (fo : Int → Int64) (M : MS), (c.bc ≤ 601024 ∧ c.bs ≤ 7293034) → I (k + 1) c S M → jw X (601024 - c.bc) (7293034 - c.bs) ((wtL D g A c S ++ [al D 2 o 1 fo]) ++ moL D gm M) [(4, .int (ii (6 * (k : Int)))), (0, .ref b), (1, .ref (g 0)), (2, .ref (gm 0)), (3, .ref o)] 1398 []) : jw X (601024 - c.bc) (7293034 - c.bs) ((wtL D g A c S ++ [al D 2 o 1 fo]) ++ moL D gm M) [(4, .int (ii (6 * (k : Int)))), (0, .ref b), (1, .ref (g 0)), (2, .ref (gm 0)), (3, .ref o)] 776 [] := by
  obtain ⟨ok, hI, hTT, hNN, hnt, hR, hN, hX, hbl, hbA, hn0⟩ := W
  have hn : n ≤ 2147483647 := by omega
  obtain ⟨t, r, c9, S9, r', M1, t', M2, e1, e2, e3, hc, hI9⟩ := st k c S M (lx ((xs (6 * (k : Int) + 1).toNat).toInt) ((xs (6 * (k : Int) + 2).toNat).toInt)) hk hI0 
  rcases hc with ⟨rfl, ht', hr⟩ | ⟨rfl, ht'⟩
  · skip
    refine jr_aload_n ok 2 d_La_law_776 rfl rfl ?_
    refine jr_aload_n ok 1 d_La_law_777 rfl rfl ?_
    refine jr_iload ok 0 d_La_law_778 rfl ?_
    refine jr_iconst ok d_La_law_780 ?_
    refine jr_iadd ok d_La_law_781 ?_
    refine jr_sld ok hX hbl hbA hn (by omega) (by omega) d_La_law_782 ?_
    refine jr_wi2l ok rfl d_La_law_783 ?_
    refine jr_bipush ok d_La_law_784 (by decide +kernel) ?_
    refine jr_lshlx ok d_La_law_786 ?_
    refine jr_aload_n ok 1 d_La_law_787 rfl rfl ?_
    refine jr_iload ok 0 d_La_law_788 rfl ?_
    refine jr_iconst ok d_La_law_790 ?_
    refine jr_iadd ok d_La_law_791 ?_
    refine jr_sld ok hX hbl hbA hn (by omega) (by omega) d_La_law_792 ?_
    refine jr_wi2l ok rfl d_La_law_793 ?_
    refine jr_ldc2 (z := 4294967295) ok w_1807 (by decide +kernel) d_La_law_794 ?_
    refine jr_landx ok d_La_law_797 ?_
    refine jr_lorx ok d_La_law_798 ?_
    refine jr_aload_n ok 4 d_La_law_799 rfl rfl ?_
    refine jh_callS ok hI hTT hNN m_La_116 (jgH_frame (h_La_retain (jx_l X) hnt D g A c S o fo (lx ((xs (6 * (k : Int) + 1).toNat).toInt) ((xs (6 * (k : Int) + 2).toNat).toInt)) 0 r c9 S9 0 (fun j => if j = 0 then ll (w32 r) else fo j) e1 (Or.inl ⟨rfl, rfl, rfl⟩)) (moL D gm M)) (fun _ => rfl) rfl rfl (Nat.le_of_ble_eq_true rfl) ⟨by rw [hR]; exact Nat.le_of_ble_eq_true rfl, by rw [hR]; exact Nat.le_of_ble_eq_true rfl⟩ ⟨by rw [hR]; show 601024 - c.bc + c.bc ≤ 601024; omega, by rw [hR]; show 7293034 - c.bs + c.bs ≤ 7293034; omega⟩ d_La_law_800 (fun A9 hφ => ?_)
    refine jr_widen (cs' := 601024 - c9.bc) (sl' := 7293034 - c9.bs) (by have := hφ.1; show 601024 - c.bc + (c.bc - c9.bc) ≤ 601024 - c9.bc; omega) (by have := hφ.2; show 7293034 - c.bs + (c.bs - c9.bs) ≤ 7293034 - c9.bs; omega) ?_
    show jw X (601024 - c9.bc) (7293034 - c9.bs) ((wtL D g A9 c9 S9 ++ [al D 2 o 1 (fun j => if j = 0 then ll (w32 r) else fo j)]) ++ moL D gm M) [(4, .int (ii (6 * (k : Int)))), (0, .ref b), (1, .ref (g 0)), (2, .ref (gm 0)), (3, .ref o)] 803 [.int (ii 0)]
    refine jr_istore [(5, .int (ii 0)), (4, .int (ii (6 * (k : Int)))), (0, .ref b), (1, .ref (g 0)), (2, .ref (gm 0)), (3, .ref o)] ok d_La_law_803 (by rw [hN]; decide) rfl ?_
    refine jr_aload_n ok 4 d_La_law_805 rfl rfl ?_
    refine jr_aload_n ok 2 d_La_law_806 rfl rfl ?_
    refine jr_iload ok 1 d_La_law_807 rfl ?_
    refine jr_iconst ok d_La_law_809 ?_
    refine jr_iadd ok d_La_law_810 ?_
    refine jr_sld ok hX hbl hbA hn (by omega) (by omega) d_La_law_811 ?_
    refine jr_wi2l ok rfl d_La_law_812 ?_
    refine jr_bipush ok d_La_law_813 (by decide +kernel) ?_
    refine jr_lshlx ok d_La_law_815 ?_
    refine jr_aload_n ok 2 d_La_law_816 rfl rfl ?_
    refine jr_iload ok 1 d_La_law_817 rfl ?_
    refine jr_iconst ok d_La_law_819 ?_
    refine jr_iadd ok d_La_law_820 ?_
    refine jr_sld ok hX hbl hbA hn (by omega) (by omega) d_La_law_821 ?_
    refine jr_wi2l ok rfl d_La_law_822 ?_
    refine jr_ldc2 (z := 4294967295) ok w_1807 (by decide +kernel) d_La_law_823 ?_
    refine jr_landx ok d_La_law_826 ?_
    refine jr_lorx ok d_La_law_827 ?_
    refine jr_swapL ?_
    refine jq_cV1 ok hR m_La_119 (jc_frame (c_Mo_retain (jx_l X) D gm M (lx ((xs (6 * (k : Int) + 1).toNat).toInt) ((xs (6 * (k : Int) + 2).toNat).toInt)) r' M1 e2) (wtL D g A9 c9 S9 ++ [al D 2 o 1 (fun j => if j = 0 then ll (w32 r) else fo j)])) (sg_atk 0 rfl) rfl rfl rfl (Nat.le_of_ble_eq_true rfl) ⟨Nat.le_of_ble_eq_true rfl, Nat.le_of_ble_eq_true rfl⟩ ⟨Nat.sub_le _ _, Nat.sub_le _ _⟩ d_La_law_828 ?_
    show jw X (601024 - c9.bc) (7293034 - c9.bs) (moL D gm M1 ++ (wtL D g A9 c9 S9 ++ [al D 2 o 1 (fun j => if j = 0 then ll (w32 r) else fo j)])) [(5, .int (ii 0)), (4, .int (ii (6 * (k : Int)))), (0, .ref b), (1, .ref (g 0)), (2, .ref (gm 0)), (3, .ref o)] 831 [.int (ii r')]
    refine jr_swapL ?_
    refine jr_istore [(6, .int (ii r')), (5, .int (ii 0)), (4, .int (ii (6 * (k : Int)))), (0, .ref b), (1, .ref (g 0)), (2, .ref (gm 0)), (3, .ref o)] ok d_La_law_831 (by rw [hN]; decide) rfl ?_
    refine jr_aload_n ok 5 d_La_law_833 rfl rfl ?_
    refine jr_swapL ?_
    refine jq_cV1 ok hR m_La_85 (jc_frame (c_Mo_thrown (jx_l X) D gm M1 t' M2 e3) (wtL D g A9 c9 S9 ++ [al D 2 o 1 (fun j => if j = 0 then ll (w32 r) else fo j)])) (sg_atk 0 rfl) rfl rfl rfl (Nat.le_of_ble_eq_true rfl) ⟨Nat.le_of_ble_eq_true rfl, Nat.le_of_ble_eq_true rfl⟩ ⟨Nat.sub_le _ _, Nat.sub_le _ _⟩ d_La_law_834 ?_
    show jw X (601024 - c9.bc) (7293034 - c9.bs) (moL D gm M2 ++ (wtL D g A9 c9 S9 ++ [al D 2 o 1 (fun j => if j = 0 then ll (w32 r) else fo j)])) [(6, .int (ii r')), (5, .int (ii 0)), (4, .int (ii (6 * (k : Int)))), (0, .ref b), (1, .ref (g 0)), (2, .ref (gm 0)), (3, .ref o)] 837 [.int (ii t')]
    refine jr_swapL ?_
    refine jr_iload ok 1 d_La_law_837 rfl ?_
    refine jr_wicmp_eq 844 ok ht' (show w32 0 = 0 by decide) d_La_law_839 (by decide) (fun _ => ?_) (fun z => absurd rfl z)
    refine jr_iload ok 1 d_La_law_844 rfl ?_
    refine jr_wif_ne 861 ok (show w32 0 = 0 by decide) d_La_law_846 (by decide) (fun z => absurd rfl z) (fun _ => ?_)
    refine jr_aload_n ok 6 d_La_law_849 rfl rfl ?_
    refine jr_iconst ok d_La_law_850 ?_
    refine jr_lald ok 24 rfl rfl (by decide) (by decide) d_La_law_851 ?_
    show jw X (601024 - c9.bc) (7293034 - c9.bs) ((wtL D g A9 c9 S9 ++ [al D 2 o 1 (fun j => if j = 0 then ll (w32 r) else fo j)]) ++ moL D gm M2) [(6, .int (ii r')), (5, .int (ii 0)), (4, .int (ii (6 * (k : Int)))), (0, .ref b), (1, .ref (g 0)), (2, .ref (gm 0)), (3, .ref o)] 852 [.long (ll (w32 r))]
    refine jr_iload ok 0 d_La_law_852 rfl ?_
    refine jr_wi2l ok rfl d_La_law_854 ?_
    refine jr_lif_eq 861 ok rfl (show (ll (w32 r')).toInt = (ll (w32 r)).toInt by rw [hr]) d_La_law_855 d_La_law_856 (by decide) (fun _ => ?_) (fun z => absurd rfl z)
    refine jr_goto 1398 ok d_La_law_861 (by decide) ?_
    exact jr_lv [2, 3, 4, 5, 6] rfl (next A9 c9 S9 (fun j => if j = 0 then ll (w32 r) else fo j) M2 ⟨Nat.le_trans hφ.1 hcc.1, Nat.le_trans hφ.2 hcc.2⟩ hI9)
  · skip
    refine jr_aload_n ok 2 d_La_law_776 rfl rfl ?_
    refine jr_aload_n ok 1 d_La_law_777 rfl rfl ?_
    refine jr_iload ok 0 d_La_law_778 rfl ?_
    refine jr_iconst ok d_La_law_780 ?_
    refine jr_iadd ok d_La_law_781 ?_
    refine jr_sld ok hX hbl hbA hn (by omega) (by omega) d_La_law_782 ?_
    refine jr_wi2l ok rfl d_La_law_783 ?_
    refine jr_bipush ok d_La_law_784 (by decide +kernel) ?_
    refine jr_lshlx ok d_La_law_786 ?_
    refine jr_aload_n ok 1 d_La_law_787 rfl rfl ?_
    refine jr_iload ok 0 d_La_law_788 rfl ?_
    refine jr_iconst ok d_La_law_790 ?_
    refine jr_iadd ok d_La_law_791 ?_
    refine jr_sld ok hX hbl hbA hn (by omega) (by omega) d_La_law_792 ?_
    refine jr_wi2l ok rfl d_La_law_793 ?_
    refine jr_ldc2 (z := 4294967295) ok w_1807 (by decide +kernel) d_La_law_794 ?_
    refine jr_landx ok d_La_law_797 ?_
    refine jr_lorx ok d_La_law_798 ?_
    refine jr_aload_n ok 4 d_La_law_799 rfl rfl ?_
    refine jh_callS ok hI hTT hNN m_La_116 (jgH_frame (h_La_retain (jx_l X) hnt D g A c S o fo (lx ((xs (6 * (k : Int) + 1).toNat).toInt) ((xs (6 * (k : Int) + 2).toNat).toInt)) 2 r c9 S9 1 fo e1 (Or.inr ⟨rfl, rfl, rfl⟩)) (moL D gm M)) (fun _ => rfl) rfl rfl (Nat.le_of_ble_eq_true rfl) ⟨by rw [hR]; exact Nat.le_of_ble_eq_true rfl, by rw [hR]; exact Nat.le_of_ble_eq_true rfl⟩ ⟨by rw [hR]; show 601024 - c.bc + c.bc ≤ 601024; omega, by rw [hR]; show 7293034 - c.bs + c.bs ≤ 7293034; omega⟩ d_La_law_800 (fun A9 hφ => ?_)
    refine jr_widen (cs' := 601024 - c9.bc) (sl' := 7293034 - c9.bs) (by have := hφ.1; show 601024 - c.bc + (c.bc - c9.bc) ≤ 601024 - c9.bc; omega) (by have := hφ.2; show 7293034 - c.bs + (c.bs - c9.bs) ≤ 7293034 - c9.bs; omega) ?_
    show jw X (601024 - c9.bc) (7293034 - c9.bs) ((wtL D g A9 c9 S9 ++ [al D 2 o 1 fo]) ++ moL D gm M) [(4, .int (ii (6 * (k : Int)))), (0, .ref b), (1, .ref (g 0)), (2, .ref (gm 0)), (3, .ref o)] 803 [.int (ii 1)]
    refine jr_istore [(5, .int (ii 1)), (4, .int (ii (6 * (k : Int)))), (0, .ref b), (1, .ref (g 0)), (2, .ref (gm 0)), (3, .ref o)] ok d_La_law_803 (by rw [hN]; decide) rfl ?_
    refine jr_aload_n ok 4 d_La_law_805 rfl rfl ?_
    refine jr_aload_n ok 2 d_La_law_806 rfl rfl ?_
    refine jr_iload ok 1 d_La_law_807 rfl ?_
    refine jr_iconst ok d_La_law_809 ?_
    refine jr_iadd ok d_La_law_810 ?_
    refine jr_sld ok hX hbl hbA hn (by omega) (by omega) d_La_law_811 ?_
    refine jr_wi2l ok rfl d_La_law_812 ?_
    refine jr_bipush ok d_La_law_813 (by decide +kernel) ?_
    refine jr_lshlx ok d_La_law_815 ?_
    refine jr_aload_n ok 2 d_La_law_816 rfl rfl ?_
    refine jr_iload ok 1 d_La_law_817 rfl ?_
    refine jr_iconst ok d_La_law_819 ?_
    refine jr_iadd ok d_La_law_820 ?_
    refine jr_sld ok hX hbl hbA hn (by omega) (by omega) d_La_law_821 ?_
    refine jr_wi2l ok rfl d_La_law_822 ?_
    refine jr_ldc2 (z := 4294967295) ok w_1807 (by decide +kernel) d_La_law_823 ?_
    refine jr_landx ok d_La_law_826 ?_
    refine jr_lorx ok d_La_law_827 ?_
    refine jr_swapL ?_
    refine jq_cV1 ok hR m_La_119 (jc_frame (c_Mo_retain (jx_l X) D gm M (lx ((xs (6 * (k : Int) + 1).toNat).toInt) ((xs (6 * (k : Int) + 2).toNat).toInt)) r' M1 e2) (wtL D g A9 c9 S9 ++ [al D 2 o 1 fo])) (sg_atk 0 rfl) rfl rfl rfl (Nat.le_of_ble_eq_true rfl) ⟨Nat.le_of_ble_eq_true rfl, Nat.le_of_ble_eq_true rfl⟩ ⟨Nat.sub_le _ _, Nat.sub_le _ _⟩ d_La_law_828 ?_
    show jw X (601024 - c9.bc) (7293034 - c9.bs) (moL D gm M1 ++ (wtL D g A9 c9 S9 ++ [al D 2 o 1 fo])) [(5, .int (ii 1)), (4, .int (ii (6 * (k : Int)))), (0, .ref b), (1, .ref (g 0)), (2, .ref (gm 0)), (3, .ref o)] 831 [.int (ii r')]
    refine jr_swapL ?_
    refine jr_istore [(6, .int (ii r')), (5, .int (ii 1)), (4, .int (ii (6 * (k : Int)))), (0, .ref b), (1, .ref (g 0)), (2, .ref (gm 0)), (3, .ref o)] ok d_La_law_831 (by rw [hN]; decide) rfl ?_
    refine jr_aload_n ok 5 d_La_law_833 rfl rfl ?_
    refine jr_swapL ?_
    refine jq_cV1 ok hR m_La_85 (jc_frame (c_Mo_thrown (jx_l X) D gm M1 t' M2 e3) (wtL D g A9 c9 S9 ++ [al D 2 o 1 fo])) (sg_atk 0 rfl) rfl rfl rfl (Nat.le_of_ble_eq_true rfl) ⟨Nat.le_of_ble_eq_true rfl, Nat.le_of_ble_eq_true rfl⟩ ⟨Nat.sub_le _ _, Nat.sub_le _ _⟩ d_La_law_834 ?_
    show jw X (601024 - c9.bc) (7293034 - c9.bs) (moL D gm M2 ++ (wtL D g A9 c9 S9 ++ [al D 2 o 1 fo])) [(6, .int (ii r')), (5, .int (ii 1)), (4, .int (ii (6 * (k : Int)))), (0, .ref b), (1, .ref (g 0)), (2, .ref (gm 0)), (3, .ref o)] 837 [.int (ii t')]
    refine jr_swapL ?_
    refine jr_iload ok 1 d_La_law_837 rfl ?_
    refine jr_wicmp_eq 844 ok ht' (show w32 1 = 1 by decide) d_La_law_839 (by decide) (fun _ => ?_) (fun z => absurd rfl z)
    refine jr_iload ok 1 d_La_law_844 rfl ?_
    refine jr_wif_ne 861 ok (show w32 1 = 1 by decide) d_La_law_846 (by decide) (fun _ => ?_) (fun z => absurd z (by decide))
    refine jr_goto 1398 ok d_La_law_861 (by decide) ?_
    exact jr_lv [2, 3, 4, 5, 6] rfl (next A9 c9 S9 fo M2 ⟨Nat.le_trans hφ.1 hcc.1, Nat.le_trans hφ.2 hcc.2⟩ hI9)

set_option maxHeartbeats 4000000 in
set_option maxRecDepth 100000 in
theorem lc_ask {I : Nat → CW → WS → MS → Prop} (st : st_ask I) {X : jx_T} {D : jd_T} {b n o : Nat} {xs : Nat → Int32} {g gm : Nat → Nat} (W : lawW X D b n xs) {k : Nat} {A : AW} {c : CW} {S : WS} {fo : Int → Int64} {M : MS} (hk : k < 512) (hkn : 6 * (k : Int) + 6 ≤ (n : Int)) (hcc : c.bc ≤ 601024 ∧ c.bs ≤ 7293034) (hI0 : I k c S M) (next : ∀ (A : AW) (c : CW) (S : WS) (fo : Int → Int64) (M : MS), (c.bc ≤ 601024 ∧ c.bs ≤ 7293034) → I (k + 1) c S M → jw X (601024 - c.bc) (7293034 - c.bs) ((wtL D g A c S ++ [al D 2 o 1 fo]) ++ moL D gm M) [(4, .int (ii (6 * (k : Int)))), (0, .ref b), (1, .ref (g 0)), (2, .ref (gm 0)), (3, .ref o)] 1398 []) : jw X (601024 - c.bc) (7293034 - c.bs) ((wtL D g A c S ++ [al D 2 o 1 fo]) ++ moL D gm M) [(4, .int (ii (6 * (k : Int)))), (0, .ref b), (1, .ref (g 0)), (2, .ref (gm 0)), (3, .ref o)] 864 [] := by
  obtain ⟨ok, hI, hTT, hNN, hnt, hR, hN, hX, hbl, hbA, hn0⟩ := W
  have hn : n ≤ 2147483647 := by omega
  obtain ⟨t, r, c9, S9, r', M1, t', M2, e1, e2, e3, hc, hI9⟩ := st k c S M (lx ((xs (6 * (k : Int) + 1).toNat).toInt) ((xs (6 * (k : Int) + 2).toNat).toInt)) (lx ((xs (6 * (k : Int) + 3).toNat).toInt) ((xs (6 * (k : Int) + 4).toNat).toInt)) ((xs (6 * (k : Int) + 5).toNat).toInt) hk hI0 (xs_R _)
  rcases hc with ⟨rfl, ht', hr⟩ | ⟨rfl, ht'⟩
  · skip
    refine jr_aload_n ok 2 d_La_law_864 rfl rfl ?_
    refine jr_aload_n ok 1 d_La_law_865 rfl rfl ?_
    refine jr_iload ok 0 d_La_law_866 rfl ?_
    refine jr_iconst ok d_La_law_868 ?_
    refine jr_iadd ok d_La_law_869 ?_
    refine jr_sld ok hX hbl hbA hn (by omega) (by omega) d_La_law_870 ?_
    refine jr_wi2l ok rfl d_La_law_871 ?_
    refine jr_bipush ok d_La_law_872 (by decide +kernel) ?_
    refine jr_lshlx ok d_La_law_874 ?_
    refine jr_aload_n ok 1 d_La_law_875 rfl rfl ?_
    refine jr_iload ok 0 d_La_law_876 rfl ?_
    refine jr_iconst ok d_La_law_878 ?_
    refine jr_iadd ok d_La_law_879 ?_
    refine jr_sld ok hX hbl hbA hn (by omega) (by omega) d_La_law_880 ?_
    refine jr_wi2l ok rfl d_La_law_881 ?_
    refine jr_ldc2 (z := 4294967295) ok w_1807 (by decide +kernel) d_La_law_882 ?_
    refine jr_landx ok d_La_law_885 ?_
    refine jr_lorx ok d_La_law_886 ?_
    refine jr_aload_n ok 1 d_La_law_887 rfl rfl ?_
    refine jr_iload ok 0 d_La_law_888 rfl ?_
    refine jr_iconst ok d_La_law_890 ?_
    refine jr_iadd ok d_La_law_891 ?_
    refine jr_sld ok hX hbl hbA hn (by omega) (by omega) d_La_law_892 ?_
    refine jr_wi2l ok rfl d_La_law_893 ?_
    refine jr_bipush ok d_La_law_894 (by decide +kernel) ?_
    refine jr_lshlx ok d_La_law_896 ?_
    refine jr_aload_n ok 1 d_La_law_897 rfl rfl ?_
    refine jr_iload ok 0 d_La_law_898 rfl ?_
    refine jr_iconst ok d_La_law_900 ?_
    refine jr_iadd ok d_La_law_901 ?_
    refine jr_sld ok hX hbl hbA hn (by omega) (by omega) d_La_law_902 ?_
    refine jr_wi2l ok rfl d_La_law_903 ?_
    refine jr_ldc2 (z := 4294967295) ok w_1807 (by decide +kernel) d_La_law_904 ?_
    refine jr_landx ok d_La_law_907 ?_
    refine jr_lorx ok d_La_law_908 ?_
    refine jr_aload_n ok 1 d_La_law_909 rfl rfl ?_
    refine jr_iload ok 0 d_La_law_910 rfl ?_
    refine jr_iconst ok d_La_law_912 ?_
    refine jr_iadd ok d_La_law_913 ?_
    refine jr_sld ok hX hbl hbA hn (by omega) (by omega) d_La_law_914 ?_
    refine jr_aload_n ok 4 d_La_law_915 rfl rfl ?_
    refine jh_callS ok hI hTT hNN m_La_120 (jgH_frame (h_La_ask (jx_l X) hnt D g A c S o fo (lx ((xs (6 * (k : Int) + 1).toNat).toInt) ((xs (6 * (k : Int) + 2).toNat).toInt)) (lx ((xs (6 * (k : Int) + 3).toNat).toInt) ((xs (6 * (k : Int) + 4).toNat).toInt)) ((xs (6 * (k : Int) + 5).toNat).toInt) 0 r c9 S9 0 (fun j => if j = 0 then ll (w32 r) else fo j) e1 (Or.inl ⟨rfl, rfl, rfl⟩)) (moL D gm M)) (fun _ => rfl) rfl rfl (Nat.le_of_ble_eq_true rfl) ⟨by rw [hR]; exact Nat.le_of_ble_eq_true rfl, by rw [hR]; exact Nat.le_of_ble_eq_true rfl⟩ ⟨by rw [hR]; show 601024 - c.bc + c.bc ≤ 601024; omega, by rw [hR]; show 7293034 - c.bs + c.bs ≤ 7293034; omega⟩ d_La_law_916 (fun A9 hφ => ?_)
    refine jr_widen (cs' := 601024 - c9.bc) (sl' := 7293034 - c9.bs) (by have := hφ.1; show 601024 - c.bc + (c.bc - c9.bc) ≤ 601024 - c9.bc; omega) (by have := hφ.2; show 7293034 - c.bs + (c.bs - c9.bs) ≤ 7293034 - c9.bs; omega) ?_
    show jw X (601024 - c9.bc) (7293034 - c9.bs) ((wtL D g A9 c9 S9 ++ [al D 2 o 1 (fun j => if j = 0 then ll (w32 r) else fo j)]) ++ moL D gm M) [(4, .int (ii (6 * (k : Int)))), (0, .ref b), (1, .ref (g 0)), (2, .ref (gm 0)), (3, .ref o)] 919 [.int (ii 0)]
    refine jr_istore [(5, .int (ii 0)), (4, .int (ii (6 * (k : Int)))), (0, .ref b), (1, .ref (g 0)), (2, .ref (gm 0)), (3, .ref o)] ok d_La_law_919 (by rw [hN]; decide) rfl ?_
    refine jr_aload_n ok 4 d_La_law_921 rfl rfl ?_
    refine jr_aload_n ok 2 d_La_law_922 rfl rfl ?_
    refine jr_iload ok 1 d_La_law_923 rfl ?_
    refine jr_iconst ok d_La_law_925 ?_
    refine jr_iadd ok d_La_law_926 ?_
    refine jr_sld ok hX hbl hbA hn (by omega) (by omega) d_La_law_927 ?_
    refine jr_wi2l ok rfl d_La_law_928 ?_
    refine jr_bipush ok d_La_law_929 (by decide +kernel) ?_
    refine jr_lshlx ok d_La_law_931 ?_
    refine jr_aload_n ok 2 d_La_law_932 rfl rfl ?_
    refine jr_iload ok 1 d_La_law_933 rfl ?_
    refine jr_iconst ok d_La_law_935 ?_
    refine jr_iadd ok d_La_law_936 ?_
    refine jr_sld ok hX hbl hbA hn (by omega) (by omega) d_La_law_937 ?_
    refine jr_wi2l ok rfl d_La_law_938 ?_
    refine jr_ldc2 (z := 4294967295) ok w_1807 (by decide +kernel) d_La_law_939 ?_
    refine jr_landx ok d_La_law_942 ?_
    refine jr_lorx ok d_La_law_943 ?_
    refine jr_aload_n ok 2 d_La_law_944 rfl rfl ?_
    refine jr_iload ok 1 d_La_law_945 rfl ?_
    refine jr_iconst ok d_La_law_947 ?_
    refine jr_iadd ok d_La_law_948 ?_
    refine jr_sld ok hX hbl hbA hn (by omega) (by omega) d_La_law_949 ?_
    refine jr_wi2l ok rfl d_La_law_950 ?_
    refine jr_bipush ok d_La_law_951 (by decide +kernel) ?_
    refine jr_lshlx ok d_La_law_953 ?_
    refine jr_aload_n ok 2 d_La_law_954 rfl rfl ?_
    refine jr_iload ok 1 d_La_law_955 rfl ?_
    refine jr_iconst ok d_La_law_957 ?_
    refine jr_iadd ok d_La_law_958 ?_
    refine jr_sld ok hX hbl hbA hn (by omega) (by omega) d_La_law_959 ?_
    refine jr_wi2l ok rfl d_La_law_960 ?_
    refine jr_ldc2 (z := 4294967295) ok w_1807 (by decide +kernel) d_La_law_961 ?_
    refine jr_landx ok d_La_law_964 ?_
    refine jr_lorx ok d_La_law_965 ?_
    refine jr_aload_n ok 2 d_La_law_966 rfl rfl ?_
    refine jr_iload ok 1 d_La_law_967 rfl ?_
    refine jr_iconst ok d_La_law_969 ?_
    refine jr_iadd ok d_La_law_970 ?_
    refine jr_sld ok hX hbl hbA hn (by omega) (by omega) d_La_law_971 ?_
    refine jr_swapL ?_
    refine jq_cV1 ok hR m_La_123 (jc_frame (c_Mo_ask (jx_l X) D gm M (lx ((xs (6 * (k : Int) + 1).toNat).toInt) ((xs (6 * (k : Int) + 2).toNat).toInt)) (lx ((xs (6 * (k : Int) + 3).toNat).toInt) ((xs (6 * (k : Int) + 4).toNat).toInt)) ((xs (6 * (k : Int) + 5).toNat).toInt) r' M1 e2) (wtL D g A9 c9 S9 ++ [al D 2 o 1 (fun j => if j = 0 then ll (w32 r) else fo j)])) (sg_atk 0 rfl) rfl rfl rfl (Nat.le_of_ble_eq_true rfl) ⟨Nat.le_of_ble_eq_true rfl, Nat.le_of_ble_eq_true rfl⟩ ⟨Nat.sub_le _ _, Nat.sub_le _ _⟩ d_La_law_972 ?_
    show jw X (601024 - c9.bc) (7293034 - c9.bs) (moL D gm M1 ++ (wtL D g A9 c9 S9 ++ [al D 2 o 1 (fun j => if j = 0 then ll (w32 r) else fo j)])) [(5, .int (ii 0)), (4, .int (ii (6 * (k : Int)))), (0, .ref b), (1, .ref (g 0)), (2, .ref (gm 0)), (3, .ref o)] 975 [.int (ii r')]
    refine jr_swapL ?_
    refine jr_istore [(6, .int (ii r')), (5, .int (ii 0)), (4, .int (ii (6 * (k : Int)))), (0, .ref b), (1, .ref (g 0)), (2, .ref (gm 0)), (3, .ref o)] ok d_La_law_975 (by rw [hN]; decide) rfl ?_
    refine jr_aload_n ok 5 d_La_law_977 rfl rfl ?_
    refine jr_swapL ?_
    refine jq_cV1 ok hR m_La_85 (jc_frame (c_Mo_thrown (jx_l X) D gm M1 t' M2 e3) (wtL D g A9 c9 S9 ++ [al D 2 o 1 (fun j => if j = 0 then ll (w32 r) else fo j)])) (sg_atk 0 rfl) rfl rfl rfl (Nat.le_of_ble_eq_true rfl) ⟨Nat.le_of_ble_eq_true rfl, Nat.le_of_ble_eq_true rfl⟩ ⟨Nat.sub_le _ _, Nat.sub_le _ _⟩ d_La_law_978 ?_
    show jw X (601024 - c9.bc) (7293034 - c9.bs) (moL D gm M2 ++ (wtL D g A9 c9 S9 ++ [al D 2 o 1 (fun j => if j = 0 then ll (w32 r) else fo j)])) [(6, .int (ii r')), (5, .int (ii 0)), (4, .int (ii (6 * (k : Int)))), (0, .ref b), (1, .ref (g 0)), (2, .ref (gm 0)), (3, .ref o)] 981 [.int (ii t')]
    refine jr_swapL ?_
    refine jr_iload ok 1 d_La_law_981 rfl ?_
    refine jr_wicmp_eq 988 ok ht' (show w32 0 = 0 by decide) d_La_law_983 (by decide) (fun _ => ?_) (fun z => absurd rfl z)
    refine jr_iload ok 1 d_La_law_988 rfl ?_
    refine jr_wif_ne 1005 ok (show w32 0 = 0 by decide) d_La_law_990 (by decide) (fun z => absurd rfl z) (fun _ => ?_)
    refine jr_aload_n ok 6 d_La_law_993 rfl rfl ?_
    refine jr_iconst ok d_La_law_994 ?_
    refine jr_lald ok 24 rfl rfl (by decide) (by decide) d_La_law_995 ?_
    show jw X (601024 - c9.bc) (7293034 - c9.bs) ((wtL D g A9 c9 S9 ++ [al D 2 o 1 (fun j => if j = 0 then ll (w32 r) else fo j)]) ++ moL D gm M2) [(6, .int (ii r')), (5, .int (ii 0)), (4, .int (ii (6 * (k : Int)))), (0, .ref b), (1, .ref (g 0)), (2, .ref (gm 0)), (3, .ref o)] 996 [.long (ll (w32 r))]
    refine jr_iload ok 0 d_La_law_996 rfl ?_
    refine jr_wi2l ok rfl d_La_law_998 ?_
    refine jr_lif_eq 1005 ok rfl (show (ll (w32 r')).toInt = (ll (w32 r)).toInt by rw [hr]) d_La_law_999 d_La_law_1000 (by decide) (fun _ => ?_) (fun z => absurd rfl z)
    refine jr_goto 1398 ok d_La_law_1005 (by decide) ?_
    exact jr_lv [2, 3, 4, 5, 6] rfl (next A9 c9 S9 (fun j => if j = 0 then ll (w32 r) else fo j) M2 ⟨Nat.le_trans hφ.1 hcc.1, Nat.le_trans hφ.2 hcc.2⟩ hI9)
  · skip
    refine jr_aload_n ok 2 d_La_law_864 rfl rfl ?_
    refine jr_aload_n ok 1 d_La_law_865 rfl rfl ?_
    refine jr_iload ok 0 d_La_law_866 rfl ?_
    refine jr_iconst ok d_La_law_868 ?_
    refine jr_iadd ok d_La_law_869 ?_
    refine jr_sld ok hX hbl hbA hn (by omega) (by omega) d_La_law_870 ?_
    refine jr_wi2l ok rfl d_La_law_871 ?_
    refine jr_bipush ok d_La_law_872 (by decide +kernel) ?_
    refine jr_lshlx ok d_La_law_874 ?_
    refine jr_aload_n ok 1 d_La_law_875 rfl rfl ?_
    refine jr_iload ok 0 d_La_law_876 rfl ?_
    refine jr_iconst ok d_La_law_878 ?_
    refine jr_iadd ok d_La_law_879 ?_
    refine jr_sld ok hX hbl hbA hn (by omega) (by omega) d_La_law_880 ?_
    refine jr_wi2l ok rfl d_La_law_881 ?_
    refine jr_ldc2 (z := 4294967295) ok w_1807 (by decide +kernel) d_La_law_882 ?_
    refine jr_landx ok d_La_law_885 ?_
    refine jr_lorx ok d_La_law_886 ?_
    refine jr_aload_n ok 1 d_La_law_887 rfl rfl ?_
    refine jr_iload ok 0 d_La_law_888 rfl ?_
    refine jr_iconst ok d_La_law_890 ?_
    refine jr_iadd ok d_La_law_891 ?_
    refine jr_sld ok hX hbl hbA hn (by omega) (by omega) d_La_law_892 ?_
    refine jr_wi2l ok rfl d_La_law_893 ?_
    refine jr_bipush ok d_La_law_894 (by decide +kernel) ?_
    refine jr_lshlx ok d_La_law_896 ?_
    refine jr_aload_n ok 1 d_La_law_897 rfl rfl ?_
    refine jr_iload ok 0 d_La_law_898 rfl ?_
    refine jr_iconst ok d_La_law_900 ?_
    refine jr_iadd ok d_La_law_901 ?_
    refine jr_sld ok hX hbl hbA hn (by omega) (by omega) d_La_law_902 ?_
    refine jr_wi2l ok rfl d_La_law_903 ?_
    refine jr_ldc2 (z := 4294967295) ok w_1807 (by decide +kernel) d_La_law_904 ?_
    refine jr_landx ok d_La_law_907 ?_
    refine jr_lorx ok d_La_law_908 ?_
    refine jr_aload_n ok 1 d_La_law_909 rfl rfl ?_
    refine jr_iload ok 0 d_La_law_910 rfl ?_
    refine jr_iconst ok d_La_law_912 ?_
    refine jr_iadd ok d_La_law_913 ?_
    refine jr_sld ok hX hbl hbA hn (by omega) (by omega) d_La_law_914 ?_
    refine jr_aload_n ok 4 d_La_law_915 rfl rfl ?_
    refine jh_callS ok hI hTT hNN m_La_120 (jgH_frame (h_La_ask (jx_l X) hnt D g A c S o fo (lx ((xs (6 * (k : Int) + 1).toNat).toInt) ((xs (6 * (k : Int) + 2).toNat).toInt)) (lx ((xs (6 * (k : Int) + 3).toNat).toInt) ((xs (6 * (k : Int) + 4).toNat).toInt)) ((xs (6 * (k : Int) + 5).toNat).toInt) 2 r c9 S9 1 fo e1 (Or.inr ⟨rfl, rfl, rfl⟩)) (moL D gm M)) (fun _ => rfl) rfl rfl (Nat.le_of_ble_eq_true rfl) ⟨by rw [hR]; exact Nat.le_of_ble_eq_true rfl, by rw [hR]; exact Nat.le_of_ble_eq_true rfl⟩ ⟨by rw [hR]; show 601024 - c.bc + c.bc ≤ 601024; omega, by rw [hR]; show 7293034 - c.bs + c.bs ≤ 7293034; omega⟩ d_La_law_916 (fun A9 hφ => ?_)
    refine jr_widen (cs' := 601024 - c9.bc) (sl' := 7293034 - c9.bs) (by have := hφ.1; show 601024 - c.bc + (c.bc - c9.bc) ≤ 601024 - c9.bc; omega) (by have := hφ.2; show 7293034 - c.bs + (c.bs - c9.bs) ≤ 7293034 - c9.bs; omega) ?_
    show jw X (601024 - c9.bc) (7293034 - c9.bs) ((wtL D g A9 c9 S9 ++ [al D 2 o 1 fo]) ++ moL D gm M) [(4, .int (ii (6 * (k : Int)))), (0, .ref b), (1, .ref (g 0)), (2, .ref (gm 0)), (3, .ref o)] 919 [.int (ii 1)]
    refine jr_istore [(5, .int (ii 1)), (4, .int (ii (6 * (k : Int)))), (0, .ref b), (1, .ref (g 0)), (2, .ref (gm 0)), (3, .ref o)] ok d_La_law_919 (by rw [hN]; decide) rfl ?_
    refine jr_aload_n ok 4 d_La_law_921 rfl rfl ?_
    refine jr_aload_n ok 2 d_La_law_922 rfl rfl ?_
    refine jr_iload ok 1 d_La_law_923 rfl ?_
    refine jr_iconst ok d_La_law_925 ?_
    refine jr_iadd ok d_La_law_926 ?_
    refine jr_sld ok hX hbl hbA hn (by omega) (by omega) d_La_law_927 ?_
    refine jr_wi2l ok rfl d_La_law_928 ?_
    refine jr_bipush ok d_La_law_929 (by decide +kernel) ?_
    refine jr_lshlx ok d_La_law_931 ?_
    refine jr_aload_n ok 2 d_La_law_932 rfl rfl ?_
    refine jr_iload ok 1 d_La_law_933 rfl ?_
    refine jr_iconst ok d_La_law_935 ?_
    refine jr_iadd ok d_La_law_936 ?_
    refine jr_sld ok hX hbl hbA hn (by omega) (by omega) d_La_law_937 ?_
    refine jr_wi2l ok rfl d_La_law_938 ?_
    refine jr_ldc2 (z := 4294967295) ok w_1807 (by decide +kernel) d_La_law_939 ?_
    refine jr_landx ok d_La_law_942 ?_
    refine jr_lorx ok d_La_law_943 ?_
    refine jr_aload_n ok 2 d_La_law_944 rfl rfl ?_
    refine jr_iload ok 1 d_La_law_945 rfl ?_
    refine jr_iconst ok d_La_law_947 ?_
    refine jr_iadd ok d_La_law_948 ?_
    refine jr_sld ok hX hbl hbA hn (by omega) (by omega) d_La_law_949 ?_
    refine jr_wi2l ok rfl d_La_law_950 ?_
    refine jr_bipush ok d_La_law_951 (by decide +kernel) ?_
    refine jr_lshlx ok d_La_law_953 ?_
    refine jr_aload_n ok 2 d_La_law_954 rfl rfl ?_
    refine jr_iload ok 1 d_La_law_955 rfl ?_
    refine jr_iconst ok d_La_law_957 ?_
    refine jr_iadd ok d_La_law_958 ?_
    refine jr_sld ok hX hbl hbA hn (by omega) (by omega) d_La_law_959 ?_
    refine jr_wi2l ok rfl d_La_law_960 ?_
    refine jr_ldc2 (z := 4294967295) ok w_1807 (by decide +kernel) d_La_law_961 ?_
    refine jr_landx ok d_La_law_964 ?_
    refine jr_lorx ok d_La_law_965 ?_
    refine jr_aload_n ok 2 d_La_law_966 rfl rfl ?_
    refine jr_iload ok 1 d_La_law_967 rfl ?_
    refine jr_iconst ok d_La_law_969 ?_
    refine jr_iadd ok d_La_law_970 ?_
    refine jr_sld ok hX hbl hbA hn (by omega) (by omega) d_La_law_971 ?_
    refine jr_swapL ?_
    refine jq_cV1 ok hR m_La_123 (jc_frame (c_Mo_ask (jx_l X) D gm M (lx ((xs (6 * (k : Int) + 1).toNat).toInt) ((xs (6 * (k : Int) + 2).toNat).toInt)) (lx ((xs (6 * (k : Int) + 3).toNat).toInt) ((xs (6 * (k : Int) + 4).toNat).toInt)) ((xs (6 * (k : Int) + 5).toNat).toInt) r' M1 e2) (wtL D g A9 c9 S9 ++ [al D 2 o 1 fo])) (sg_atk 0 rfl) rfl rfl rfl (Nat.le_of_ble_eq_true rfl) ⟨Nat.le_of_ble_eq_true rfl, Nat.le_of_ble_eq_true rfl⟩ ⟨Nat.sub_le _ _, Nat.sub_le _ _⟩ d_La_law_972 ?_
    show jw X (601024 - c9.bc) (7293034 - c9.bs) (moL D gm M1 ++ (wtL D g A9 c9 S9 ++ [al D 2 o 1 fo])) [(5, .int (ii 1)), (4, .int (ii (6 * (k : Int)))), (0, .ref b), (1, .ref (g 0)), (2, .ref (gm 0)), (3, .ref o)] 975 [.int (ii r')]
    refine jr_swapL ?_
    refine jr_istore [(6, .int (ii r')), (5, .int (ii 1)), (4, .int (ii (6 * (k : Int)))), (0, .ref b), (1, .ref (g 0)), (2, .ref (gm 0)), (3, .ref o)] ok d_La_law_975 (by rw [hN]; decide) rfl ?_
    refine jr_aload_n ok 5 d_La_law_977 rfl rfl ?_
    refine jr_swapL ?_
    refine jq_cV1 ok hR m_La_85 (jc_frame (c_Mo_thrown (jx_l X) D gm M1 t' M2 e3) (wtL D g A9 c9 S9 ++ [al D 2 o 1 fo])) (sg_atk 0 rfl) rfl rfl rfl (Nat.le_of_ble_eq_true rfl) ⟨Nat.le_of_ble_eq_true rfl, Nat.le_of_ble_eq_true rfl⟩ ⟨Nat.sub_le _ _, Nat.sub_le _ _⟩ d_La_law_978 ?_
    show jw X (601024 - c9.bc) (7293034 - c9.bs) (moL D gm M2 ++ (wtL D g A9 c9 S9 ++ [al D 2 o 1 fo])) [(6, .int (ii r')), (5, .int (ii 1)), (4, .int (ii (6 * (k : Int)))), (0, .ref b), (1, .ref (g 0)), (2, .ref (gm 0)), (3, .ref o)] 981 [.int (ii t')]
    refine jr_swapL ?_
    refine jr_iload ok 1 d_La_law_981 rfl ?_
    refine jr_wicmp_eq 988 ok ht' (show w32 1 = 1 by decide) d_La_law_983 (by decide) (fun _ => ?_) (fun z => absurd rfl z)
    refine jr_iload ok 1 d_La_law_988 rfl ?_
    refine jr_wif_ne 1005 ok (show w32 1 = 1 by decide) d_La_law_990 (by decide) (fun _ => ?_) (fun z => absurd z (by decide))
    refine jr_goto 1398 ok d_La_law_1005 (by decide) ?_
    exact jr_lv [2, 3, 4, 5, 6] rfl (next A9 c9 S9 fo M2 ⟨Nat.le_trans hφ.1 hcc.1, Nat.le_trans hφ.2 hcc.2⟩ hI9)

set_option maxHeartbeats 4000000 in
set_option maxRecDepth 100000 in
theorem lc_names {I : Nat → CW → WS → MS → Prop} (st : st_names I) {X : jx_T} {D : jd_T} {b n o : Nat} {xs : Nat → Int32} {g gm : Nat → Nat} (W : lawW X D b n xs) {k : Nat} {A : AW} {c : CW} {S : WS} {fo : Int → Int64} {M : MS} (hk : k < 512) (hkn : 6 * (k : Int) + 6 ≤ (n : Int)) (hcc : c.bc ≤ 601024 ∧ c.bs ≤ 7293034) (hI0 : I k c S M) (next : ∀ (A : AW) (c : CW) (S : WS) (fo : Int → Int64) (M : MS), (c.bc ≤ 601024 ∧ c.bs ≤ 7293034) → I (k + 1) c S M → jw X (601024 - c.bc) (7293034 - c.bs) ((wtL D g A c S ++ [al D 2 o 1 fo]) ++ moL D gm M) [(4, .int (ii (6 * (k : Int)))), (0, .ref b), (1, .ref (g 0)), (2, .ref (gm 0)), (3, .ref o)] 1398 []) : jw X (601024 - c.bc) (7293034 - c.bs) ((wtL D g A c S ++ [al D 2 o 1 fo]) ++ moL D gm M) [(4, .int (ii (6 * (k : Int)))), (0, .ref b), (1, .ref (g 0)), (2, .ref (gm 0)), (3, .ref o)] 1008 [] := by
  obtain ⟨ok, hI, hTT, hNN, hnt, hR, hN, hX, hbl, hbA, hn0⟩ := W
  have hn : n ≤ 2147483647 := by omega
  obtain ⟨r, S9, r', M1, e1, e2, hr, hI9⟩ := st k c S M hk hI0
  refine jr_aload_n ok 2 d_La_law_1008 rfl rfl ?_
  rw [List.append_assoc]
  refine jq_cV1 ok hR m_La_124 (jc_frame (r_WT_names (jx_l X) D g A c S r S9 e1) ([al D 2 o 1 fo] ++ moL D gm M)) (sg_atk 0 rfl) rfl rfl rfl (Nat.le_of_ble_eq_true rfl) ⟨Nat.le_of_ble_eq_true rfl, Nat.le_of_ble_eq_true rfl⟩ ⟨Nat.sub_le _ _, Nat.sub_le _ _⟩ d_La_law_1009 ?_
  show jw X (601024 - c.bc) (7293034 - c.bs) (wtL D g A c S9 ++ ([al D 2 o 1 fo] ++ moL D gm M)) [(4, .int (ii (6 * (k : Int)))), (0, .ref b), (1, .ref (g 0)), (2, .ref (gm 0)), (3, .ref o)] 1012 [.int (ii r)]
  rw [← List.append_assoc]
  refine jr_aload_n ok 3 d_La_law_1012 rfl rfl ?_
  refine jr_swapL ?_
  refine jq_cV1 ok hR m_La_127 (jc_frame (c_Mo_names (jx_l X) D gm M  r' M1 e2) (wtL D g A c S9 ++ [al D 2 o 1 fo])) (sg_atk 0 rfl) rfl rfl rfl (Nat.le_of_ble_eq_true rfl) ⟨Nat.le_of_ble_eq_true rfl, Nat.le_of_ble_eq_true rfl⟩ ⟨Nat.sub_le _ _, Nat.sub_le _ _⟩ d_La_law_1013 ?_
  show jw X (601024 - c.bc) (7293034 - c.bs) (moL D gm M1 ++ (wtL D g A c S9 ++ [al D 2 o 1 fo])) [(4, .int (ii (6 * (k : Int)))), (0, .ref b), (1, .ref (g 0)), (2, .ref (gm 0)), (3, .ref o)] 1016 [.int (ii r'), .int (ii r)]
  refine jr_swapL ?_
  refine jr_wicmp_eq 1398 ok hr rfl d_La_law_1016 (by decide) (fun _ => ?_) (fun z => absurd rfl z)
  exact jr_lv [0, 1, 2, 3, 4] rfl (next A c S9 fo M1 hcc hI9)

set_option maxHeartbeats 4000000 in
set_option maxRecDepth 100000 in
theorem lc_text {I : Nat → CW → WS → MS → Prop} (st : st_text I) {X : jx_T} {D : jd_T} {b n o : Nat} {xs : Nat → Int32} {g gm : Nat → Nat} (W : lawW X D b n xs) {k : Nat} {A : AW} {c : CW} {S : WS} {fo : Int → Int64} {M : MS} (hk : k < 512) (hkn : 6 * (k : Int) + 6 ≤ (n : Int)) (hcc : c.bc ≤ 601024 ∧ c.bs ≤ 7293034) (hI0 : I k c S M) (next : ∀ (A : AW) (c : CW) (S : WS) (fo : Int → Int64) (M : MS), (c.bc ≤ 601024 ∧ c.bs ≤ 7293034) → I (k + 1) c S M → jw X (601024 - c.bc) (7293034 - c.bs) ((wtL D g A c S ++ [al D 2 o 1 fo]) ++ moL D gm M) [(4, .int (ii (6 * (k : Int)))), (0, .ref b), (1, .ref (g 0)), (2, .ref (gm 0)), (3, .ref o)] 1398 []) : jw X (601024 - c.bc) (7293034 - c.bs) ((wtL D g A c S ++ [al D 2 o 1 fo]) ++ moL D gm M) [(4, .int (ii (6 * (k : Int)))), (0, .ref b), (1, .ref (g 0)), (2, .ref (gm 0)), (3, .ref o)] 1021 [] := by
  obtain ⟨ok, hI, hTT, hNN, hnt, hR, hN, hX, hbl, hbA, hn0⟩ := W
  have hn : n ≤ 2147483647 := by omega
  obtain ⟨t, r, c9, S9, r', M1, t', M2, e1, e2, e3, hc, hI9⟩ := st k c S M ((xs (6 * (k : Int) + 1).toNat).toInt) ((xs (6 * (k : Int) + 2).toNat).toInt) ((xs (6 * (k : Int) + 3).toNat).toInt) hk hI0 (xs_R _) (xs_R _) (xs_R _)
  rcases hc with ⟨rfl, ht', hr⟩ | ⟨rfl, ht'⟩
  · skip
    refine jr_aload_n ok 2 d_La_law_1021 rfl rfl ?_
    refine jr_aload_n ok 1 d_La_law_1022 rfl rfl ?_
    refine jr_iload ok 0 d_La_law_1023 rfl ?_
    refine jr_iconst ok d_La_law_1025 ?_
    refine jr_iadd ok d_La_law_1026 ?_
    refine jr_sld ok hX hbl hbA hn (by omega) (by omega) d_La_law_1027 ?_
    refine jr_aload_n ok 1 d_La_law_1028 rfl rfl ?_
    refine jr_iload ok 0 d_La_law_1029 rfl ?_
    refine jr_iconst ok d_La_law_1031 ?_
    refine jr_iadd ok d_La_law_1032 ?_
    refine jr_sld ok hX hbl hbA hn (by omega) (by omega) d_La_law_1033 ?_
    refine jr_aload_n ok 1 d_La_law_1034 rfl rfl ?_
    refine jr_iload ok 0 d_La_law_1035 rfl ?_
    refine jr_iconst ok d_La_law_1037 ?_
    refine jr_iadd ok d_La_law_1038 ?_
    refine jr_sld ok hX hbl hbA hn (by omega) (by omega) d_La_law_1039 ?_
    refine jr_aload_n ok 4 d_La_law_1040 rfl rfl ?_
    refine jh_callS ok hI hTT hNN m_La_128 (jgH_frame (h_La_text (jx_l X) hnt D g A c S o fo ((xs (6 * (k : Int) + 1).toNat).toInt) ((xs (6 * (k : Int) + 2).toNat).toInt) ((xs (6 * (k : Int) + 3).toNat).toInt) 0 r c9 S9 0 (fun j => if j = 0 then ll (w32 r) else fo j) e1 (Or.inl ⟨rfl, rfl, rfl⟩)) (moL D gm M)) (fun _ => rfl) rfl rfl (Nat.le_of_ble_eq_true rfl) ⟨by rw [hR]; exact Nat.le_of_ble_eq_true rfl, by rw [hR]; exact Nat.le_of_ble_eq_true rfl⟩ ⟨by rw [hR]; show 601024 - c.bc + c.bc ≤ 601024; omega, by rw [hR]; show 7293034 - c.bs + c.bs ≤ 7293034; omega⟩ d_La_law_1041 (fun A9 hφ => ?_)
    refine jr_widen (cs' := 601024 - c9.bc) (sl' := 7293034 - c9.bs) (by have := hφ.1; show 601024 - c.bc + (c.bc - c9.bc) ≤ 601024 - c9.bc; omega) (by have := hφ.2; show 7293034 - c.bs + (c.bs - c9.bs) ≤ 7293034 - c9.bs; omega) ?_
    show jw X (601024 - c9.bc) (7293034 - c9.bs) ((wtL D g A9 c9 S9 ++ [al D 2 o 1 (fun j => if j = 0 then ll (w32 r) else fo j)]) ++ moL D gm M) [(4, .int (ii (6 * (k : Int)))), (0, .ref b), (1, .ref (g 0)), (2, .ref (gm 0)), (3, .ref o)] 1044 [.int (ii 0)]
    refine jr_istore [(5, .int (ii 0)), (4, .int (ii (6 * (k : Int)))), (0, .ref b), (1, .ref (g 0)), (2, .ref (gm 0)), (3, .ref o)] ok d_La_law_1044 (by rw [hN]; decide) rfl ?_
    refine jr_aload_n ok 4 d_La_law_1046 rfl rfl ?_
    refine jr_aload_n ok 2 d_La_law_1047 rfl rfl ?_
    refine jr_iload ok 1 d_La_law_1048 rfl ?_
    refine jr_iconst ok d_La_law_1050 ?_
    refine jr_iadd ok d_La_law_1051 ?_
    refine jr_sld ok hX hbl hbA hn (by omega) (by omega) d_La_law_1052 ?_
    refine jr_aload_n ok 2 d_La_law_1053 rfl rfl ?_
    refine jr_iload ok 1 d_La_law_1054 rfl ?_
    refine jr_iconst ok d_La_law_1056 ?_
    refine jr_iadd ok d_La_law_1057 ?_
    refine jr_sld ok hX hbl hbA hn (by omega) (by omega) d_La_law_1058 ?_
    refine jr_aload_n ok 2 d_La_law_1059 rfl rfl ?_
    refine jr_iload ok 1 d_La_law_1060 rfl ?_
    refine jr_iconst ok d_La_law_1062 ?_
    refine jr_iadd ok d_La_law_1063 ?_
    refine jr_sld ok hX hbl hbA hn (by omega) (by omega) d_La_law_1064 ?_
    refine jr_swapL ?_
    refine jq_cV1 ok hR m_La_131 (jc_frame (c_Mo_text (jx_l X) D gm M ((xs (6 * (k : Int) + 1).toNat).toInt) ((xs (6 * (k : Int) + 2).toNat).toInt) ((xs (6 * (k : Int) + 3).toNat).toInt) r' M1 e2) (wtL D g A9 c9 S9 ++ [al D 2 o 1 (fun j => if j = 0 then ll (w32 r) else fo j)])) (sg_atk 0 rfl) rfl rfl rfl (Nat.le_of_ble_eq_true rfl) ⟨Nat.le_of_ble_eq_true rfl, Nat.le_of_ble_eq_true rfl⟩ ⟨Nat.sub_le _ _, Nat.sub_le _ _⟩ d_La_law_1065 ?_
    show jw X (601024 - c9.bc) (7293034 - c9.bs) (moL D gm M1 ++ (wtL D g A9 c9 S9 ++ [al D 2 o 1 (fun j => if j = 0 then ll (w32 r) else fo j)])) [(5, .int (ii 0)), (4, .int (ii (6 * (k : Int)))), (0, .ref b), (1, .ref (g 0)), (2, .ref (gm 0)), (3, .ref o)] 1068 [.int (ii r')]
    refine jr_swapL ?_
    refine jr_istore [(6, .int (ii r')), (5, .int (ii 0)), (4, .int (ii (6 * (k : Int)))), (0, .ref b), (1, .ref (g 0)), (2, .ref (gm 0)), (3, .ref o)] ok d_La_law_1068 (by rw [hN]; decide) rfl ?_
    refine jr_aload_n ok 5 d_La_law_1070 rfl rfl ?_
    refine jr_swapL ?_
    refine jq_cV1 ok hR m_La_85 (jc_frame (c_Mo_thrown (jx_l X) D gm M1 t' M2 e3) (wtL D g A9 c9 S9 ++ [al D 2 o 1 (fun j => if j = 0 then ll (w32 r) else fo j)])) (sg_atk 0 rfl) rfl rfl rfl (Nat.le_of_ble_eq_true rfl) ⟨Nat.le_of_ble_eq_true rfl, Nat.le_of_ble_eq_true rfl⟩ ⟨Nat.sub_le _ _, Nat.sub_le _ _⟩ d_La_law_1071 ?_
    show jw X (601024 - c9.bc) (7293034 - c9.bs) (moL D gm M2 ++ (wtL D g A9 c9 S9 ++ [al D 2 o 1 (fun j => if j = 0 then ll (w32 r) else fo j)])) [(6, .int (ii r')), (5, .int (ii 0)), (4, .int (ii (6 * (k : Int)))), (0, .ref b), (1, .ref (g 0)), (2, .ref (gm 0)), (3, .ref o)] 1074 [.int (ii t')]
    refine jr_swapL ?_
    refine jr_iload ok 1 d_La_law_1074 rfl ?_
    refine jr_wicmp_eq 1081 ok ht' (show w32 0 = 0 by decide) d_La_law_1076 (by decide) (fun _ => ?_) (fun z => absurd rfl z)
    refine jr_iload ok 1 d_La_law_1081 rfl ?_
    refine jr_wif_ne 1098 ok (show w32 0 = 0 by decide) d_La_law_1083 (by decide) (fun z => absurd rfl z) (fun _ => ?_)
    refine jr_aload_n ok 6 d_La_law_1086 rfl rfl ?_
    refine jr_iconst ok d_La_law_1087 ?_
    refine jr_lald ok 24 rfl rfl (by decide) (by decide) d_La_law_1088 ?_
    show jw X (601024 - c9.bc) (7293034 - c9.bs) ((wtL D g A9 c9 S9 ++ [al D 2 o 1 (fun j => if j = 0 then ll (w32 r) else fo j)]) ++ moL D gm M2) [(6, .int (ii r')), (5, .int (ii 0)), (4, .int (ii (6 * (k : Int)))), (0, .ref b), (1, .ref (g 0)), (2, .ref (gm 0)), (3, .ref o)] 1089 [.long (ll (w32 r))]
    refine jr_iload ok 0 d_La_law_1089 rfl ?_
    refine jr_wi2l ok rfl d_La_law_1091 ?_
    refine jr_lif_eq 1098 ok rfl (show (ll (w32 r')).toInt = (ll (w32 r)).toInt by rw [hr]) d_La_law_1092 d_La_law_1093 (by decide) (fun _ => ?_) (fun z => absurd rfl z)
    refine jr_goto 1398 ok d_La_law_1098 (by decide) ?_
    exact jr_lv [2, 3, 4, 5, 6] rfl (next A9 c9 S9 (fun j => if j = 0 then ll (w32 r) else fo j) M2 ⟨Nat.le_trans hφ.1 hcc.1, Nat.le_trans hφ.2 hcc.2⟩ hI9)
  · skip
    refine jr_aload_n ok 2 d_La_law_1021 rfl rfl ?_
    refine jr_aload_n ok 1 d_La_law_1022 rfl rfl ?_
    refine jr_iload ok 0 d_La_law_1023 rfl ?_
    refine jr_iconst ok d_La_law_1025 ?_
    refine jr_iadd ok d_La_law_1026 ?_
    refine jr_sld ok hX hbl hbA hn (by omega) (by omega) d_La_law_1027 ?_
    refine jr_aload_n ok 1 d_La_law_1028 rfl rfl ?_
    refine jr_iload ok 0 d_La_law_1029 rfl ?_
    refine jr_iconst ok d_La_law_1031 ?_
    refine jr_iadd ok d_La_law_1032 ?_
    refine jr_sld ok hX hbl hbA hn (by omega) (by omega) d_La_law_1033 ?_
    refine jr_aload_n ok 1 d_La_law_1034 rfl rfl ?_
    refine jr_iload ok 0 d_La_law_1035 rfl ?_
    refine jr_iconst ok d_La_law_1037 ?_
    refine jr_iadd ok d_La_law_1038 ?_
    refine jr_sld ok hX hbl hbA hn (by omega) (by omega) d_La_law_1039 ?_
    refine jr_aload_n ok 4 d_La_law_1040 rfl rfl ?_
    refine jh_callS ok hI hTT hNN m_La_128 (jgH_frame (h_La_text (jx_l X) hnt D g A c S o fo ((xs (6 * (k : Int) + 1).toNat).toInt) ((xs (6 * (k : Int) + 2).toNat).toInt) ((xs (6 * (k : Int) + 3).toNat).toInt) 3 r c9 S9 1 fo e1 (Or.inr ⟨rfl, rfl, rfl⟩)) (moL D gm M)) (fun _ => rfl) rfl rfl (Nat.le_of_ble_eq_true rfl) ⟨by rw [hR]; exact Nat.le_of_ble_eq_true rfl, by rw [hR]; exact Nat.le_of_ble_eq_true rfl⟩ ⟨by rw [hR]; show 601024 - c.bc + c.bc ≤ 601024; omega, by rw [hR]; show 7293034 - c.bs + c.bs ≤ 7293034; omega⟩ d_La_law_1041 (fun A9 hφ => ?_)
    refine jr_widen (cs' := 601024 - c9.bc) (sl' := 7293034 - c9.bs) (by have := hφ.1; show 601024 - c.bc + (c.bc - c9.bc) ≤ 601024 - c9.bc; omega) (by have := hφ.2; show 7293034 - c.bs + (c.bs - c9.bs) ≤ 7293034 - c9.bs; omega) ?_
    show jw X (601024 - c9.bc) (7293034 - c9.bs) ((wtL D g A9 c9 S9 ++ [al D 2 o 1 fo]) ++ moL D gm M) [(4, .int (ii (6 * (k : Int)))), (0, .ref b), (1, .ref (g 0)), (2, .ref (gm 0)), (3, .ref o)] 1044 [.int (ii 1)]
    refine jr_istore [(5, .int (ii 1)), (4, .int (ii (6 * (k : Int)))), (0, .ref b), (1, .ref (g 0)), (2, .ref (gm 0)), (3, .ref o)] ok d_La_law_1044 (by rw [hN]; decide) rfl ?_
    refine jr_aload_n ok 4 d_La_law_1046 rfl rfl ?_
    refine jr_aload_n ok 2 d_La_law_1047 rfl rfl ?_
    refine jr_iload ok 1 d_La_law_1048 rfl ?_
    refine jr_iconst ok d_La_law_1050 ?_
    refine jr_iadd ok d_La_law_1051 ?_
    refine jr_sld ok hX hbl hbA hn (by omega) (by omega) d_La_law_1052 ?_
    refine jr_aload_n ok 2 d_La_law_1053 rfl rfl ?_
    refine jr_iload ok 1 d_La_law_1054 rfl ?_
    refine jr_iconst ok d_La_law_1056 ?_
    refine jr_iadd ok d_La_law_1057 ?_
    refine jr_sld ok hX hbl hbA hn (by omega) (by omega) d_La_law_1058 ?_
    refine jr_aload_n ok 2 d_La_law_1059 rfl rfl ?_
    refine jr_iload ok 1 d_La_law_1060 rfl ?_
    refine jr_iconst ok d_La_law_1062 ?_
    refine jr_iadd ok d_La_law_1063 ?_
    refine jr_sld ok hX hbl hbA hn (by omega) (by omega) d_La_law_1064 ?_
    refine jr_swapL ?_
    refine jq_cV1 ok hR m_La_131 (jc_frame (c_Mo_text (jx_l X) D gm M ((xs (6 * (k : Int) + 1).toNat).toInt) ((xs (6 * (k : Int) + 2).toNat).toInt) ((xs (6 * (k : Int) + 3).toNat).toInt) r' M1 e2) (wtL D g A9 c9 S9 ++ [al D 2 o 1 fo])) (sg_atk 0 rfl) rfl rfl rfl (Nat.le_of_ble_eq_true rfl) ⟨Nat.le_of_ble_eq_true rfl, Nat.le_of_ble_eq_true rfl⟩ ⟨Nat.sub_le _ _, Nat.sub_le _ _⟩ d_La_law_1065 ?_
    show jw X (601024 - c9.bc) (7293034 - c9.bs) (moL D gm M1 ++ (wtL D g A9 c9 S9 ++ [al D 2 o 1 fo])) [(5, .int (ii 1)), (4, .int (ii (6 * (k : Int)))), (0, .ref b), (1, .ref (g 0)), (2, .ref (gm 0)), (3, .ref o)] 1068 [.int (ii r')]
    refine jr_swapL ?_
    refine jr_istore [(6, .int (ii r')), (5, .int (ii 1)), (4, .int (ii (6 * (k : Int)))), (0, .ref b), (1, .ref (g 0)), (2, .ref (gm 0)), (3, .ref o)] ok d_La_law_1068 (by rw [hN]; decide) rfl ?_
    refine jr_aload_n ok 5 d_La_law_1070 rfl rfl ?_
    refine jr_swapL ?_
    refine jq_cV1 ok hR m_La_85 (jc_frame (c_Mo_thrown (jx_l X) D gm M1 t' M2 e3) (wtL D g A9 c9 S9 ++ [al D 2 o 1 fo])) (sg_atk 0 rfl) rfl rfl rfl (Nat.le_of_ble_eq_true rfl) ⟨Nat.le_of_ble_eq_true rfl, Nat.le_of_ble_eq_true rfl⟩ ⟨Nat.sub_le _ _, Nat.sub_le _ _⟩ d_La_law_1071 ?_
    show jw X (601024 - c9.bc) (7293034 - c9.bs) (moL D gm M2 ++ (wtL D g A9 c9 S9 ++ [al D 2 o 1 fo])) [(6, .int (ii r')), (5, .int (ii 1)), (4, .int (ii (6 * (k : Int)))), (0, .ref b), (1, .ref (g 0)), (2, .ref (gm 0)), (3, .ref o)] 1074 [.int (ii t')]
    refine jr_swapL ?_
    refine jr_iload ok 1 d_La_law_1074 rfl ?_
    refine jr_wicmp_eq 1081 ok ht' (show w32 1 = 1 by decide) d_La_law_1076 (by decide) (fun _ => ?_) (fun z => absurd rfl z)
    refine jr_iload ok 1 d_La_law_1081 rfl ?_
    refine jr_wif_ne 1098 ok (show w32 1 = 1 by decide) d_La_law_1083 (by decide) (fun _ => ?_) (fun z => absurd z (by decide))
    refine jr_goto 1398 ok d_La_law_1098 (by decide) ?_
    exact jr_lv [2, 3, 4, 5, 6] rfl (next A9 c9 S9 fo M2 ⟨Nat.le_trans hφ.1 hcc.1, Nat.le_trans hφ.2 hcc.2⟩ hI9)

set_option maxHeartbeats 4000000 in
set_option maxRecDepth 100000 in
theorem lc_isThere {I : Nat → CW → WS → MS → Prop} (st : st_isThere I) {X : jx_T} {D : jd_T} {b n o : Nat} {xs : Nat → Int32} {g gm : Nat → Nat} (W : lawW X D b n xs) {k : Nat} {A : AW} {c : CW} {S : WS} {fo : Int → Int64} {M : MS} (hk : k < 512) (hkn : 6 * (k : Int) + 6 ≤ (n : Int)) (hcc : c.bc ≤ 601024 ∧ c.bs ≤ 7293034) (hI0 : I k c S M) (next : ∀ (A : AW) (c : CW) (S : WS) (fo : Int → Int64) (M : MS), (c.bc ≤ 601024 ∧ c.bs ≤ 7293034) → I (k + 1) c S M → jw X (601024 - c.bc) (7293034 - c.bs) ((wtL D g A c S ++ [al D 2 o 1 fo]) ++ moL D gm M) [(4, .int (ii (6 * (k : Int)))), (0, .ref b), (1, .ref (g 0)), (2, .ref (gm 0)), (3, .ref o)] 1398 []) : jw X (601024 - c.bc) (7293034 - c.bs) ((wtL D g A c S ++ [al D 2 o 1 fo]) ++ moL D gm M) [(4, .int (ii (6 * (k : Int)))), (0, .ref b), (1, .ref (g 0)), (2, .ref (gm 0)), (3, .ref o)] 1101 [] := by
  obtain ⟨ok, hI, hTT, hNN, hnt, hR, hN, hX, hbl, hbA, hn0⟩ := W
  have hn : n ≤ 2147483647 := by omega
  obtain ⟨t, r, c9, S9, r', M1, t', M2, e1, e2, e3, hc, hI9⟩ := st k c S M ((xs (6 * (k : Int) + 1).toNat).toInt) ((xs (6 * (k : Int) + 2).toNat).toInt) hk hI0 (xs_R _) (xs_R _)
  rcases hc with ⟨rfl, ht', hr⟩ | ⟨rfl, ht'⟩
  · skip
    refine jr_aload_n ok 2 d_La_law_1101 rfl rfl ?_
    refine jr_aload_n ok 1 d_La_law_1102 rfl rfl ?_
    refine jr_iload ok 0 d_La_law_1103 rfl ?_
    refine jr_iconst ok d_La_law_1105 ?_
    refine jr_iadd ok d_La_law_1106 ?_
    refine jr_sld ok hX hbl hbA hn (by omega) (by omega) d_La_law_1107 ?_
    refine jr_aload_n ok 1 d_La_law_1108 rfl rfl ?_
    refine jr_iload ok 0 d_La_law_1109 rfl ?_
    refine jr_iconst ok d_La_law_1111 ?_
    refine jr_iadd ok d_La_law_1112 ?_
    refine jr_sld ok hX hbl hbA hn (by omega) (by omega) d_La_law_1113 ?_
    refine jr_aload_n ok 4 d_La_law_1114 rfl rfl ?_
    refine jh_callS ok hI hTT hNN m_La_132 (jgH_frame (h_La_isThere (jx_l X) hnt D g A c S o fo ((xs (6 * (k : Int) + 1).toNat).toInt) ((xs (6 * (k : Int) + 2).toNat).toInt) 0 r c9 S9 0 (fun j => if j = 0 then (if w32 r = 0 then ll 0 else ll 1) else fo j) e1 (Or.inl ⟨rfl, rfl, rfl⟩)) (moL D gm M)) (fun _ => rfl) rfl rfl (Nat.le_of_ble_eq_true rfl) ⟨by rw [hR]; exact Nat.le_of_ble_eq_true rfl, by rw [hR]; exact Nat.le_of_ble_eq_true rfl⟩ ⟨by rw [hR]; show 601024 - c.bc + c.bc ≤ 601024; omega, by rw [hR]; show 7293034 - c.bs + c.bs ≤ 7293034; omega⟩ d_La_law_1115 (fun A9 hφ => ?_)
    refine jr_widen (cs' := 601024 - c9.bc) (sl' := 7293034 - c9.bs) (by have := hφ.1; show 601024 - c.bc + (c.bc - c9.bc) ≤ 601024 - c9.bc; omega) (by have := hφ.2; show 7293034 - c.bs + (c.bs - c9.bs) ≤ 7293034 - c9.bs; omega) ?_
    show jw X (601024 - c9.bc) (7293034 - c9.bs) ((wtL D g A9 c9 S9 ++ [al D 2 o 1 (fun j => if j = 0 then (if w32 r = 0 then ll 0 else ll 1) else fo j)]) ++ moL D gm M) [(4, .int (ii (6 * (k : Int)))), (0, .ref b), (1, .ref (g 0)), (2, .ref (gm 0)), (3, .ref o)] 1118 [.int (ii 0)]
    refine jr_istore [(5, .int (ii 0)), (4, .int (ii (6 * (k : Int)))), (0, .ref b), (1, .ref (g 0)), (2, .ref (gm 0)), (3, .ref o)] ok d_La_law_1118 (by rw [hN]; decide) rfl ?_
    refine jr_aload_n ok 4 d_La_law_1120 rfl rfl ?_
    refine jr_aload_n ok 2 d_La_law_1121 rfl rfl ?_
    refine jr_iload ok 1 d_La_law_1122 rfl ?_
    refine jr_iconst ok d_La_law_1124 ?_
    refine jr_iadd ok d_La_law_1125 ?_
    refine jr_sld ok hX hbl hbA hn (by omega) (by omega) d_La_law_1126 ?_
    refine jr_aload_n ok 2 d_La_law_1127 rfl rfl ?_
    refine jr_iload ok 1 d_La_law_1128 rfl ?_
    refine jr_iconst ok d_La_law_1130 ?_
    refine jr_iadd ok d_La_law_1131 ?_
    refine jr_sld ok hX hbl hbA hn (by omega) (by omega) d_La_law_1132 ?_
    refine jr_swapL ?_
    refine jq_cV1 ok hR m_La_134 (jc_frame (c_Mo_isThere (jx_l X) D gm M ((xs (6 * (k : Int) + 1).toNat).toInt) ((xs (6 * (k : Int) + 2).toNat).toInt) r' M1 e2) (wtL D g A9 c9 S9 ++ [al D 2 o 1 (fun j => if j = 0 then (if w32 r = 0 then ll 0 else ll 1) else fo j)])) (sg_atk 0 rfl) rfl rfl rfl (Nat.le_of_ble_eq_true rfl) ⟨Nat.le_of_ble_eq_true rfl, Nat.le_of_ble_eq_true rfl⟩ ⟨Nat.sub_le _ _, Nat.sub_le _ _⟩ d_La_law_1133 ?_
    show jw X (601024 - c9.bc) (7293034 - c9.bs) (moL D gm M1 ++ (wtL D g A9 c9 S9 ++ [al D 2 o 1 (fun j => if j = 0 then (if w32 r = 0 then ll 0 else ll 1) else fo j)])) [(5, .int (ii 0)), (4, .int (ii (6 * (k : Int)))), (0, .ref b), (1, .ref (g 0)), (2, .ref (gm 0)), (3, .ref o)] 1136 [.int (ii r')]
    refine jr_swapL ?_
    refine jr_istore [(6, .int (ii r')), (5, .int (ii 0)), (4, .int (ii (6 * (k : Int)))), (0, .ref b), (1, .ref (g 0)), (2, .ref (gm 0)), (3, .ref o)] ok d_La_law_1136 (by rw [hN]; decide) rfl ?_
    refine jr_aload_n ok 5 d_La_law_1138 rfl rfl ?_
    refine jr_swapL ?_
    refine jq_cV1 ok hR m_La_85 (jc_frame (c_Mo_thrown (jx_l X) D gm M1 t' M2 e3) (wtL D g A9 c9 S9 ++ [al D 2 o 1 (fun j => if j = 0 then (if w32 r = 0 then ll 0 else ll 1) else fo j)])) (sg_atk 0 rfl) rfl rfl rfl (Nat.le_of_ble_eq_true rfl) ⟨Nat.le_of_ble_eq_true rfl, Nat.le_of_ble_eq_true rfl⟩ ⟨Nat.sub_le _ _, Nat.sub_le _ _⟩ d_La_law_1139 ?_
    show jw X (601024 - c9.bc) (7293034 - c9.bs) (moL D gm M2 ++ (wtL D g A9 c9 S9 ++ [al D 2 o 1 (fun j => if j = 0 then (if w32 r = 0 then ll 0 else ll 1) else fo j)])) [(6, .int (ii r')), (5, .int (ii 0)), (4, .int (ii (6 * (k : Int)))), (0, .ref b), (1, .ref (g 0)), (2, .ref (gm 0)), (3, .ref o)] 1142 [.int (ii t')]
    refine jr_swapL ?_
    refine jr_iload ok 1 d_La_law_1142 rfl ?_
    refine jr_wicmp_eq 1149 ok ht' (show w32 0 = 0 by decide) d_La_law_1144 (by decide) (fun _ => ?_) (fun z => absurd rfl z)
    refine jr_iload ok 1 d_La_law_1149 rfl ?_
    refine jr_wif_ne 1173 ok (show w32 0 = 0 by decide) d_La_law_1151 (by decide) (fun z => absurd rfl z) (fun _ => ?_)
    refine jr_aload_n ok 6 d_La_law_1154 rfl rfl ?_
    refine jr_iconst ok d_La_law_1155 ?_
    refine jr_lald ok 24 rfl rfl (by decide) (by decide) d_La_law_1156 ?_
    show jw X (601024 - c9.bc) (7293034 - c9.bs) ((wtL D g A9 c9 S9 ++ [al D 2 o 1 (fun j => if j = 0 then (if w32 r = 0 then ll 0 else ll 1) else fo j)]) ++ moL D gm M2) [(6, .int (ii r')), (5, .int (ii 0)), (4, .int (ii (6 * (k : Int)))), (0, .ref b), (1, .ref (g 0)), (2, .ref (gm 0)), (3, .ref o)] 1157 [.long ((if w32 r = 0 then ll 0 else ll 1))]
    refine jr_iload ok 0 d_La_law_1157 rfl ?_
    refine jr_wif_eq 1166 ok rfl d_La_law_1159 (by decide) (fun c1 => ?_) (fun c1 => ?_)
    · skip
      refine jr_lconst (z := 0) ok d_La_law_1166 (by decide +kernel) ?_
      rw [if_pos (hr.mpr c1)]
      refine jr_lif_eq 1173 ok rfl rfl d_La_law_1167 d_La_law_1168 (by decide) (fun _ => ?_) (fun z => absurd rfl z)
      refine jr_goto 1398 ok d_La_law_1173 (by decide) ?_
      exact jr_lv [2, 3, 4, 5, 6] rfl (next A9 c9 S9 _ M2 ⟨Nat.le_trans hφ.1 hcc.1, Nat.le_trans hφ.2 hcc.2⟩ hI9)
    · skip
      refine jr_lconst (z := 1) ok d_La_law_1162 (by decide +kernel) ?_
      refine jr_goto 1167 ok d_La_law_1163 (by decide) ?_
      rw [if_neg (fun z => c1 (hr.mp z))]
      refine jr_lif_eq 1173 ok rfl rfl d_La_law_1167 d_La_law_1168 (by decide) (fun _ => ?_) (fun z => absurd rfl z)
      refine jr_goto 1398 ok d_La_law_1173 (by decide) ?_
      exact jr_lv [2, 3, 4, 5, 6] rfl (next A9 c9 S9 _ M2 ⟨Nat.le_trans hφ.1 hcc.1, Nat.le_trans hφ.2 hcc.2⟩ hI9)
  · skip
    refine jr_aload_n ok 2 d_La_law_1101 rfl rfl ?_
    refine jr_aload_n ok 1 d_La_law_1102 rfl rfl ?_
    refine jr_iload ok 0 d_La_law_1103 rfl ?_
    refine jr_iconst ok d_La_law_1105 ?_
    refine jr_iadd ok d_La_law_1106 ?_
    refine jr_sld ok hX hbl hbA hn (by omega) (by omega) d_La_law_1107 ?_
    refine jr_aload_n ok 1 d_La_law_1108 rfl rfl ?_
    refine jr_iload ok 0 d_La_law_1109 rfl ?_
    refine jr_iconst ok d_La_law_1111 ?_
    refine jr_iadd ok d_La_law_1112 ?_
    refine jr_sld ok hX hbl hbA hn (by omega) (by omega) d_La_law_1113 ?_
    refine jr_aload_n ok 4 d_La_law_1114 rfl rfl ?_
    refine jh_callS ok hI hTT hNN m_La_132 (jgH_frame (h_La_isThere (jx_l X) hnt D g A c S o fo ((xs (6 * (k : Int) + 1).toNat).toInt) ((xs (6 * (k : Int) + 2).toNat).toInt) 3 r c9 S9 1 fo e1 (Or.inr ⟨rfl, rfl, rfl⟩)) (moL D gm M)) (fun _ => rfl) rfl rfl (Nat.le_of_ble_eq_true rfl) ⟨by rw [hR]; exact Nat.le_of_ble_eq_true rfl, by rw [hR]; exact Nat.le_of_ble_eq_true rfl⟩ ⟨by rw [hR]; show 601024 - c.bc + c.bc ≤ 601024; omega, by rw [hR]; show 7293034 - c.bs + c.bs ≤ 7293034; omega⟩ d_La_law_1115 (fun A9 hφ => ?_)
    refine jr_widen (cs' := 601024 - c9.bc) (sl' := 7293034 - c9.bs) (by have := hφ.1; show 601024 - c.bc + (c.bc - c9.bc) ≤ 601024 - c9.bc; omega) (by have := hφ.2; show 7293034 - c.bs + (c.bs - c9.bs) ≤ 7293034 - c9.bs; omega) ?_
    show jw X (601024 - c9.bc) (7293034 - c9.bs) ((wtL D g A9 c9 S9 ++ [al D 2 o 1 fo]) ++ moL D gm M) [(4, .int (ii (6 * (k : Int)))), (0, .ref b), (1, .ref (g 0)), (2, .ref (gm 0)), (3, .ref o)] 1118 [.int (ii 1)]
    refine jr_istore [(5, .int (ii 1)), (4, .int (ii (6 * (k : Int)))), (0, .ref b), (1, .ref (g 0)), (2, .ref (gm 0)), (3, .ref o)] ok d_La_law_1118 (by rw [hN]; decide) rfl ?_
    refine jr_aload_n ok 4 d_La_law_1120 rfl rfl ?_
    refine jr_aload_n ok 2 d_La_law_1121 rfl rfl ?_
    refine jr_iload ok 1 d_La_law_1122 rfl ?_
    refine jr_iconst ok d_La_law_1124 ?_
    refine jr_iadd ok d_La_law_1125 ?_
    refine jr_sld ok hX hbl hbA hn (by omega) (by omega) d_La_law_1126 ?_
    refine jr_aload_n ok 2 d_La_law_1127 rfl rfl ?_
    refine jr_iload ok 1 d_La_law_1128 rfl ?_
    refine jr_iconst ok d_La_law_1130 ?_
    refine jr_iadd ok d_La_law_1131 ?_
    refine jr_sld ok hX hbl hbA hn (by omega) (by omega) d_La_law_1132 ?_
    refine jr_swapL ?_
    refine jq_cV1 ok hR m_La_134 (jc_frame (c_Mo_isThere (jx_l X) D gm M ((xs (6 * (k : Int) + 1).toNat).toInt) ((xs (6 * (k : Int) + 2).toNat).toInt) r' M1 e2) (wtL D g A9 c9 S9 ++ [al D 2 o 1 fo])) (sg_atk 0 rfl) rfl rfl rfl (Nat.le_of_ble_eq_true rfl) ⟨Nat.le_of_ble_eq_true rfl, Nat.le_of_ble_eq_true rfl⟩ ⟨Nat.sub_le _ _, Nat.sub_le _ _⟩ d_La_law_1133 ?_
    show jw X (601024 - c9.bc) (7293034 - c9.bs) (moL D gm M1 ++ (wtL D g A9 c9 S9 ++ [al D 2 o 1 fo])) [(5, .int (ii 1)), (4, .int (ii (6 * (k : Int)))), (0, .ref b), (1, .ref (g 0)), (2, .ref (gm 0)), (3, .ref o)] 1136 [.int (ii r')]
    refine jr_swapL ?_
    refine jr_istore [(6, .int (ii r')), (5, .int (ii 1)), (4, .int (ii (6 * (k : Int)))), (0, .ref b), (1, .ref (g 0)), (2, .ref (gm 0)), (3, .ref o)] ok d_La_law_1136 (by rw [hN]; decide) rfl ?_
    refine jr_aload_n ok 5 d_La_law_1138 rfl rfl ?_
    refine jr_swapL ?_
    refine jq_cV1 ok hR m_La_85 (jc_frame (c_Mo_thrown (jx_l X) D gm M1 t' M2 e3) (wtL D g A9 c9 S9 ++ [al D 2 o 1 fo])) (sg_atk 0 rfl) rfl rfl rfl (Nat.le_of_ble_eq_true rfl) ⟨Nat.le_of_ble_eq_true rfl, Nat.le_of_ble_eq_true rfl⟩ ⟨Nat.sub_le _ _, Nat.sub_le _ _⟩ d_La_law_1139 ?_
    show jw X (601024 - c9.bc) (7293034 - c9.bs) (moL D gm M2 ++ (wtL D g A9 c9 S9 ++ [al D 2 o 1 fo])) [(6, .int (ii r')), (5, .int (ii 1)), (4, .int (ii (6 * (k : Int)))), (0, .ref b), (1, .ref (g 0)), (2, .ref (gm 0)), (3, .ref o)] 1142 [.int (ii t')]
    refine jr_swapL ?_
    refine jr_iload ok 1 d_La_law_1142 rfl ?_
    refine jr_wicmp_eq 1149 ok ht' (show w32 1 = 1 by decide) d_La_law_1144 (by decide) (fun _ => ?_) (fun z => absurd rfl z)
    refine jr_iload ok 1 d_La_law_1149 rfl ?_
    refine jr_wif_ne 1173 ok (show w32 1 = 1 by decide) d_La_law_1151 (by decide) (fun _ => ?_) (fun z => absurd z (by decide))
    refine jr_goto 1398 ok d_La_law_1173 (by decide) ?_
    exact jr_lv [2, 3, 4, 5, 6] rfl (next A9 c9 S9 fo M2 ⟨Nat.le_trans hφ.1 hcc.1, Nat.le_trans hφ.2 hcc.2⟩ hI9)

set_option maxHeartbeats 4000000 in
set_option maxRecDepth 100000 in
theorem lc_cell {I : Nat → CW → WS → MS → Prop} (st : st_cell I) {X : jx_T} {D : jd_T} {b n o : Nat} {xs : Nat → Int32} {g gm : Nat → Nat} (W : lawW X D b n xs) {k : Nat} {A : AW} {c : CW} {S : WS} {fo : Int → Int64} {M : MS} (hk : k < 512) (hkn : 6 * (k : Int) + 6 ≤ (n : Int)) (hcc : c.bc ≤ 601024 ∧ c.bs ≤ 7293034) (hI0 : I k c S M) (next : ∀ (A : AW) (c : CW) (S : WS) (fo : Int → Int64) (M : MS), (c.bc ≤ 601024 ∧ c.bs ≤ 7293034) → I (k + 1) c S M → jw X (601024 - c.bc) (7293034 - c.bs) ((wtL D g A c S ++ [al D 2 o 1 fo]) ++ moL D gm M) [(4, .int (ii (6 * (k : Int)))), (0, .ref b), (1, .ref (g 0)), (2, .ref (gm 0)), (3, .ref o)] 1398 []) : jw X (601024 - c.bc) (7293034 - c.bs) ((wtL D g A c S ++ [al D 2 o 1 fo]) ++ moL D gm M) [(4, .int (ii (6 * (k : Int)))), (0, .ref b), (1, .ref (g 0)), (2, .ref (gm 0)), (3, .ref o)] 1176 [] := by
  obtain ⟨ok, hI, hTT, hNN, hnt, hR, hN, hX, hbl, hbA, hn0⟩ := W
  have hn : n ≤ 2147483647 := by omega
  obtain ⟨t, r, c9, S9, r', M1, t', M2, e1, e2, e3, hc, hI9⟩ := st k c S M ((xs (6 * (k : Int) + 1).toNat).toInt) ((xs (6 * (k : Int) + 2).toNat).toInt) hk hI0 (xs_R _) (xs_R _)
  rcases hc with ⟨rfl, ht', hr⟩ | ⟨rfl, ht'⟩
  · skip
    refine jr_aload_n ok 2 d_La_law_1176 rfl rfl ?_
    refine jr_aload_n ok 1 d_La_law_1177 rfl rfl ?_
    refine jr_iload ok 0 d_La_law_1178 rfl ?_
    refine jr_iconst ok d_La_law_1180 ?_
    refine jr_iadd ok d_La_law_1181 ?_
    refine jr_sld ok hX hbl hbA hn (by omega) (by omega) d_La_law_1182 ?_
    refine jr_aload_n ok 1 d_La_law_1183 rfl rfl ?_
    refine jr_iload ok 0 d_La_law_1184 rfl ?_
    refine jr_iconst ok d_La_law_1186 ?_
    refine jr_iadd ok d_La_law_1187 ?_
    refine jr_sld ok hX hbl hbA hn (by omega) (by omega) d_La_law_1188 ?_
    refine jr_aload_n ok 4 d_La_law_1189 rfl rfl ?_
    refine jh_callS ok hI hTT hNN m_La_135 (jgH_frame (h_La_cell1 (jx_l X) hnt D g A c S o fo ((xs (6 * (k : Int) + 1).toNat).toInt) ((xs (6 * (k : Int) + 2).toNat).toInt) 0 r c9 S9 0 (fun j => if j = 0 then r else fo j) e1 (Or.inl ⟨rfl, rfl, rfl⟩)) (moL D gm M)) (fun _ => rfl) rfl rfl (Nat.le_of_ble_eq_true rfl) ⟨by rw [hR]; exact Nat.le_of_ble_eq_true rfl, by rw [hR]; exact Nat.le_of_ble_eq_true rfl⟩ ⟨by rw [hR]; show 601024 - c.bc + c.bc ≤ 601024; omega, by rw [hR]; show 7293034 - c.bs + c.bs ≤ 7293034; omega⟩ d_La_law_1190 (fun A9 hφ => ?_)
    refine jr_widen (cs' := 601024 - c9.bc) (sl' := 7293034 - c9.bs) (by have := hφ.1; show 601024 - c.bc + (c.bc - c9.bc) ≤ 601024 - c9.bc; omega) (by have := hφ.2; show 7293034 - c.bs + (c.bs - c9.bs) ≤ 7293034 - c9.bs; omega) ?_
    show jw X (601024 - c9.bc) (7293034 - c9.bs) ((wtL D g A9 c9 S9 ++ [al D 2 o 1 (fun j => if j = 0 then r else fo j)]) ++ moL D gm M) [(4, .int (ii (6 * (k : Int)))), (0, .ref b), (1, .ref (g 0)), (2, .ref (gm 0)), (3, .ref o)] 1193 [.int (ii 0)]
    refine jr_istore [(5, .int (ii 0)), (4, .int (ii (6 * (k : Int)))), (0, .ref b), (1, .ref (g 0)), (2, .ref (gm 0)), (3, .ref o)] ok d_La_law_1193 (by rw [hN]; decide) rfl ?_
    refine jr_aload_n ok 4 d_La_law_1195 rfl rfl ?_
    refine jr_aload_n ok 2 d_La_law_1196 rfl rfl ?_
    refine jr_iload ok 1 d_La_law_1197 rfl ?_
    refine jr_iconst ok d_La_law_1199 ?_
    refine jr_iadd ok d_La_law_1200 ?_
    refine jr_sld ok hX hbl hbA hn (by omega) (by omega) d_La_law_1201 ?_
    refine jr_aload_n ok 2 d_La_law_1202 rfl rfl ?_
    refine jr_iload ok 1 d_La_law_1203 rfl ?_
    refine jr_iconst ok d_La_law_1205 ?_
    refine jr_iadd ok d_La_law_1206 ?_
    refine jr_sld ok hX hbl hbA hn (by omega) (by omega) d_La_law_1207 ?_
    refine jr_swapL ?_
    refine jq_cV1 ok hR m_La_137 (jc_frame (c_Mo_cell (jx_l X) D gm M ((xs (6 * (k : Int) + 1).toNat).toInt) ((xs (6 * (k : Int) + 2).toNat).toInt) r' M1 e2) (wtL D g A9 c9 S9 ++ [al D 2 o 1 (fun j => if j = 0 then r else fo j)])) (sg_atk 0 rfl) rfl rfl rfl (Nat.le_of_ble_eq_true rfl) ⟨Nat.le_of_ble_eq_true rfl, Nat.le_of_ble_eq_true rfl⟩ ⟨Nat.sub_le _ _, Nat.sub_le _ _⟩ d_La_law_1208 ?_
    show jw X (601024 - c9.bc) (7293034 - c9.bs) (moL D gm M1 ++ (wtL D g A9 c9 S9 ++ [al D 2 o 1 (fun j => if j = 0 then r else fo j)])) [(5, .int (ii 0)), (4, .int (ii (6 * (k : Int)))), (0, .ref b), (1, .ref (g 0)), (2, .ref (gm 0)), (3, .ref o)] 1211 [.long r']
    refine jr_swapL ?_
    refine jr_lstore [(6, .long r'), (5, .int (ii 0)), (4, .int (ii (6 * (k : Int)))), (0, .ref b), (1, .ref (g 0)), (2, .ref (gm 0)), (3, .ref o)] ok d_La_law_1211 (by rw [hN]; decide) rfl ?_
    refine jr_aload_n ok 5 d_La_law_1213 rfl rfl ?_
    refine jr_swapL ?_
    refine jq_cV1 ok hR m_La_85 (jc_frame (c_Mo_thrown (jx_l X) D gm M1 t' M2 e3) (wtL D g A9 c9 S9 ++ [al D 2 o 1 (fun j => if j = 0 then r else fo j)])) (sg_atk 0 rfl) rfl rfl rfl (Nat.le_of_ble_eq_true rfl) ⟨Nat.le_of_ble_eq_true rfl, Nat.le_of_ble_eq_true rfl⟩ ⟨Nat.sub_le _ _, Nat.sub_le _ _⟩ d_La_law_1214 ?_
    show jw X (601024 - c9.bc) (7293034 - c9.bs) (moL D gm M2 ++ (wtL D g A9 c9 S9 ++ [al D 2 o 1 (fun j => if j = 0 then r else fo j)])) [(6, .long r'), (5, .int (ii 0)), (4, .int (ii (6 * (k : Int)))), (0, .ref b), (1, .ref (g 0)), (2, .ref (gm 0)), (3, .ref o)] 1217 [.int (ii t')]
    refine jr_swapL ?_
    refine jr_iload ok 1 d_La_law_1217 rfl ?_
    refine jr_wicmp_eq 1224 ok ht' (show w32 0 = 0 by decide) d_La_law_1219 (by decide) (fun _ => ?_) (fun z => absurd rfl z)
    refine jr_iload ok 1 d_La_law_1224 rfl ?_
    refine jr_wif_ne 1240 ok (show w32 0 = 0 by decide) d_La_law_1226 (by decide) (fun z => absurd rfl z) (fun _ => ?_)
    refine jr_aload_n ok 6 d_La_law_1229 rfl rfl ?_
    refine jr_iconst ok d_La_law_1230 ?_
    refine jr_lald ok 24 rfl rfl (by decide) (by decide) d_La_law_1231 ?_
    show jw X (601024 - c9.bc) (7293034 - c9.bs) ((wtL D g A9 c9 S9 ++ [al D 2 o 1 (fun j => if j = 0 then r else fo j)]) ++ moL D gm M2) [(6, .long r'), (5, .int (ii 0)), (4, .int (ii (6 * (k : Int)))), (0, .ref b), (1, .ref (g 0)), (2, .ref (gm 0)), (3, .ref o)] 1232 [.long (r)]
    refine jr_lload ok 0 d_La_law_1232 rfl ?_
    refine jr_lif_eq 1240 ok rfl (show (r' : Int64).toInt = (r : Int64).toInt by rw [hr]) d_La_law_1234 d_La_law_1235 (by decide) (fun _ => ?_) (fun z => absurd rfl z)
    refine jr_goto 1398 ok d_La_law_1240 (by decide) ?_
    exact jr_lv [2, 3, 4, 5, 6] rfl (next A9 c9 S9 (fun j => if j = 0 then r else fo j) M2 ⟨Nat.le_trans hφ.1 hcc.1, Nat.le_trans hφ.2 hcc.2⟩ hI9)
  · skip
    refine jr_aload_n ok 2 d_La_law_1176 rfl rfl ?_
    refine jr_aload_n ok 1 d_La_law_1177 rfl rfl ?_
    refine jr_iload ok 0 d_La_law_1178 rfl ?_
    refine jr_iconst ok d_La_law_1180 ?_
    refine jr_iadd ok d_La_law_1181 ?_
    refine jr_sld ok hX hbl hbA hn (by omega) (by omega) d_La_law_1182 ?_
    refine jr_aload_n ok 1 d_La_law_1183 rfl rfl ?_
    refine jr_iload ok 0 d_La_law_1184 rfl ?_
    refine jr_iconst ok d_La_law_1186 ?_
    refine jr_iadd ok d_La_law_1187 ?_
    refine jr_sld ok hX hbl hbA hn (by omega) (by omega) d_La_law_1188 ?_
    refine jr_aload_n ok 4 d_La_law_1189 rfl rfl ?_
    refine jh_callS ok hI hTT hNN m_La_135 (jgH_frame (h_La_cell1 (jx_l X) hnt D g A c S o fo ((xs (6 * (k : Int) + 1).toNat).toInt) ((xs (6 * (k : Int) + 2).toNat).toInt) 3 r c9 S9 1 fo e1 (Or.inr ⟨rfl, rfl, rfl⟩)) (moL D gm M)) (fun _ => rfl) rfl rfl (Nat.le_of_ble_eq_true rfl) ⟨by rw [hR]; exact Nat.le_of_ble_eq_true rfl, by rw [hR]; exact Nat.le_of_ble_eq_true rfl⟩ ⟨by rw [hR]; show 601024 - c.bc + c.bc ≤ 601024; omega, by rw [hR]; show 7293034 - c.bs + c.bs ≤ 7293034; omega⟩ d_La_law_1190 (fun A9 hφ => ?_)
    refine jr_widen (cs' := 601024 - c9.bc) (sl' := 7293034 - c9.bs) (by have := hφ.1; show 601024 - c.bc + (c.bc - c9.bc) ≤ 601024 - c9.bc; omega) (by have := hφ.2; show 7293034 - c.bs + (c.bs - c9.bs) ≤ 7293034 - c9.bs; omega) ?_
    show jw X (601024 - c9.bc) (7293034 - c9.bs) ((wtL D g A9 c9 S9 ++ [al D 2 o 1 fo]) ++ moL D gm M) [(4, .int (ii (6 * (k : Int)))), (0, .ref b), (1, .ref (g 0)), (2, .ref (gm 0)), (3, .ref o)] 1193 [.int (ii 1)]
    refine jr_istore [(5, .int (ii 1)), (4, .int (ii (6 * (k : Int)))), (0, .ref b), (1, .ref (g 0)), (2, .ref (gm 0)), (3, .ref o)] ok d_La_law_1193 (by rw [hN]; decide) rfl ?_
    refine jr_aload_n ok 4 d_La_law_1195 rfl rfl ?_
    refine jr_aload_n ok 2 d_La_law_1196 rfl rfl ?_
    refine jr_iload ok 1 d_La_law_1197 rfl ?_
    refine jr_iconst ok d_La_law_1199 ?_
    refine jr_iadd ok d_La_law_1200 ?_
    refine jr_sld ok hX hbl hbA hn (by omega) (by omega) d_La_law_1201 ?_
    refine jr_aload_n ok 2 d_La_law_1202 rfl rfl ?_
    refine jr_iload ok 1 d_La_law_1203 rfl ?_
    refine jr_iconst ok d_La_law_1205 ?_
    refine jr_iadd ok d_La_law_1206 ?_
    refine jr_sld ok hX hbl hbA hn (by omega) (by omega) d_La_law_1207 ?_
    refine jr_swapL ?_
    refine jq_cV1 ok hR m_La_137 (jc_frame (c_Mo_cell (jx_l X) D gm M ((xs (6 * (k : Int) + 1).toNat).toInt) ((xs (6 * (k : Int) + 2).toNat).toInt) r' M1 e2) (wtL D g A9 c9 S9 ++ [al D 2 o 1 fo])) (sg_atk 0 rfl) rfl rfl rfl (Nat.le_of_ble_eq_true rfl) ⟨Nat.le_of_ble_eq_true rfl, Nat.le_of_ble_eq_true rfl⟩ ⟨Nat.sub_le _ _, Nat.sub_le _ _⟩ d_La_law_1208 ?_
    show jw X (601024 - c9.bc) (7293034 - c9.bs) (moL D gm M1 ++ (wtL D g A9 c9 S9 ++ [al D 2 o 1 fo])) [(5, .int (ii 1)), (4, .int (ii (6 * (k : Int)))), (0, .ref b), (1, .ref (g 0)), (2, .ref (gm 0)), (3, .ref o)] 1211 [.long r']
    refine jr_swapL ?_
    refine jr_lstore [(6, .long r'), (5, .int (ii 1)), (4, .int (ii (6 * (k : Int)))), (0, .ref b), (1, .ref (g 0)), (2, .ref (gm 0)), (3, .ref o)] ok d_La_law_1211 (by rw [hN]; decide) rfl ?_
    refine jr_aload_n ok 5 d_La_law_1213 rfl rfl ?_
    refine jr_swapL ?_
    refine jq_cV1 ok hR m_La_85 (jc_frame (c_Mo_thrown (jx_l X) D gm M1 t' M2 e3) (wtL D g A9 c9 S9 ++ [al D 2 o 1 fo])) (sg_atk 0 rfl) rfl rfl rfl (Nat.le_of_ble_eq_true rfl) ⟨Nat.le_of_ble_eq_true rfl, Nat.le_of_ble_eq_true rfl⟩ ⟨Nat.sub_le _ _, Nat.sub_le _ _⟩ d_La_law_1214 ?_
    show jw X (601024 - c9.bc) (7293034 - c9.bs) (moL D gm M2 ++ (wtL D g A9 c9 S9 ++ [al D 2 o 1 fo])) [(6, .long r'), (5, .int (ii 1)), (4, .int (ii (6 * (k : Int)))), (0, .ref b), (1, .ref (g 0)), (2, .ref (gm 0)), (3, .ref o)] 1217 [.int (ii t')]
    refine jr_swapL ?_
    refine jr_iload ok 1 d_La_law_1217 rfl ?_
    refine jr_wicmp_eq 1224 ok ht' (show w32 1 = 1 by decide) d_La_law_1219 (by decide) (fun _ => ?_) (fun z => absurd rfl z)
    refine jr_iload ok 1 d_La_law_1224 rfl ?_
    refine jr_wif_ne 1240 ok (show w32 1 = 1 by decide) d_La_law_1226 (by decide) (fun _ => ?_) (fun z => absurd z (by decide))
    refine jr_goto 1398 ok d_La_law_1240 (by decide) ?_
    exact jr_lv [2, 3, 4, 5, 6] rfl (next A9 c9 S9 fo M2 ⟨Nat.le_trans hφ.1 hcc.1, Nat.le_trans hφ.2 hcc.2⟩ hI9)

set_option maxHeartbeats 4000000 in
set_option maxRecDepth 100000 in
theorem lc_last {I : Nat → CW → WS → MS → Prop} (st : st_last I) {X : jx_T} {D : jd_T} {b n o : Nat} {xs : Nat → Int32} {g gm : Nat → Nat} (W : lawW X D b n xs) {k : Nat} {A : AW} {c : CW} {S : WS} {fo : Int → Int64} {M : MS} (hk : k < 512) (hkn : 6 * (k : Int) + 6 ≤ (n : Int)) (hcc : c.bc ≤ 601024 ∧ c.bs ≤ 7293034) (hI0 : I k c S M) (next : ∀ (A : AW) (c : CW) (S : WS) (fo : Int → Int64) (M : MS), (c.bc ≤ 601024 ∧ c.bs ≤ 7293034) → I (k + 1) c S M → jw X (601024 - c.bc) (7293034 - c.bs) ((wtL D g A c S ++ [al D 2 o 1 fo]) ++ moL D gm M) [(4, .int (ii (6 * (k : Int)))), (0, .ref b), (1, .ref (g 0)), (2, .ref (gm 0)), (3, .ref o)] 1398 []) : jw X (601024 - c.bc) (7293034 - c.bs) ((wtL D g A c S ++ [al D 2 o 1 fo]) ++ moL D gm M) [(4, .int (ii (6 * (k : Int)))), (0, .ref b), (1, .ref (g 0)), (2, .ref (gm 0)), (3, .ref o)] 1243 [] := by
  obtain ⟨ok, hI, hTT, hNN, hnt, hR, hN, hX, hbl, hbA, hn0⟩ := W
  have hn : n ≤ 2147483647 := by omega
  obtain ⟨t, r, c9, S9, r', M1, t', M2, e1, e2, e3, hc, hI9⟩ := st k c S M ((xs (6 * (k : Int) + 1).toNat).toInt) hk hI0 (xs_R _)
  rcases hc with ⟨rfl, ht', hr⟩ | ⟨rfl, ht'⟩
  · skip
    refine jr_aload_n ok 2 d_La_law_1243 rfl rfl ?_
    refine jr_aload_n ok 1 d_La_law_1244 rfl rfl ?_
    refine jr_iload ok 0 d_La_law_1245 rfl ?_
    refine jr_iconst ok d_La_law_1247 ?_
    refine jr_iadd ok d_La_law_1248 ?_
    refine jr_sld ok hX hbl hbA hn (by omega) (by omega) d_La_law_1249 ?_
    refine jr_aload_n ok 4 d_La_law_1250 rfl rfl ?_
    refine jh_callS ok hI hTT hNN m_La_138 (jgH_frame (h_La_last (jx_l X) hnt D g A c S o fo ((xs (6 * (k : Int) + 1).toNat).toInt) 0 r c9 S9 0 (fun j => if j = 0 then r else fo j) e1 (Or.inl ⟨rfl, rfl, rfl⟩)) (moL D gm M)) (fun _ => rfl) rfl rfl (Nat.le_of_ble_eq_true rfl) ⟨by rw [hR]; exact Nat.le_of_ble_eq_true rfl, by rw [hR]; exact Nat.le_of_ble_eq_true rfl⟩ ⟨by rw [hR]; show 601024 - c.bc + c.bc ≤ 601024; omega, by rw [hR]; show 7293034 - c.bs + c.bs ≤ 7293034; omega⟩ d_La_law_1251 (fun A9 hφ => ?_)
    refine jr_widen (cs' := 601024 - c9.bc) (sl' := 7293034 - c9.bs) (by have := hφ.1; show 601024 - c.bc + (c.bc - c9.bc) ≤ 601024 - c9.bc; omega) (by have := hφ.2; show 7293034 - c.bs + (c.bs - c9.bs) ≤ 7293034 - c9.bs; omega) ?_
    show jw X (601024 - c9.bc) (7293034 - c9.bs) ((wtL D g A9 c9 S9 ++ [al D 2 o 1 (fun j => if j = 0 then r else fo j)]) ++ moL D gm M) [(4, .int (ii (6 * (k : Int)))), (0, .ref b), (1, .ref (g 0)), (2, .ref (gm 0)), (3, .ref o)] 1254 [.int (ii 0)]
    refine jr_istore [(5, .int (ii 0)), (4, .int (ii (6 * (k : Int)))), (0, .ref b), (1, .ref (g 0)), (2, .ref (gm 0)), (3, .ref o)] ok d_La_law_1254 (by rw [hN]; decide) rfl ?_
    refine jr_aload_n ok 4 d_La_law_1256 rfl rfl ?_
    refine jr_aload_n ok 2 d_La_law_1257 rfl rfl ?_
    refine jr_iload ok 1 d_La_law_1258 rfl ?_
    refine jr_iconst ok d_La_law_1260 ?_
    refine jr_iadd ok d_La_law_1261 ?_
    refine jr_sld ok hX hbl hbA hn (by omega) (by omega) d_La_law_1262 ?_
    refine jr_swapL ?_
    refine jq_cV1 ok hR m_La_140 (jc_frame (c_Mo_last (jx_l X) D gm M ((xs (6 * (k : Int) + 1).toNat).toInt) r' M1 e2) (wtL D g A9 c9 S9 ++ [al D 2 o 1 (fun j => if j = 0 then r else fo j)])) (sg_atk 0 rfl) rfl rfl rfl (Nat.le_of_ble_eq_true rfl) ⟨Nat.le_of_ble_eq_true rfl, Nat.le_of_ble_eq_true rfl⟩ ⟨Nat.sub_le _ _, Nat.sub_le _ _⟩ d_La_law_1263 ?_
    show jw X (601024 - c9.bc) (7293034 - c9.bs) (moL D gm M1 ++ (wtL D g A9 c9 S9 ++ [al D 2 o 1 (fun j => if j = 0 then r else fo j)])) [(5, .int (ii 0)), (4, .int (ii (6 * (k : Int)))), (0, .ref b), (1, .ref (g 0)), (2, .ref (gm 0)), (3, .ref o)] 1266 [.long r']
    refine jr_swapL ?_
    refine jr_lstore [(6, .long r'), (5, .int (ii 0)), (4, .int (ii (6 * (k : Int)))), (0, .ref b), (1, .ref (g 0)), (2, .ref (gm 0)), (3, .ref o)] ok d_La_law_1266 (by rw [hN]; decide) rfl ?_
    refine jr_aload_n ok 5 d_La_law_1268 rfl rfl ?_
    refine jr_swapL ?_
    refine jq_cV1 ok hR m_La_85 (jc_frame (c_Mo_thrown (jx_l X) D gm M1 t' M2 e3) (wtL D g A9 c9 S9 ++ [al D 2 o 1 (fun j => if j = 0 then r else fo j)])) (sg_atk 0 rfl) rfl rfl rfl (Nat.le_of_ble_eq_true rfl) ⟨Nat.le_of_ble_eq_true rfl, Nat.le_of_ble_eq_true rfl⟩ ⟨Nat.sub_le _ _, Nat.sub_le _ _⟩ d_La_law_1269 ?_
    show jw X (601024 - c9.bc) (7293034 - c9.bs) (moL D gm M2 ++ (wtL D g A9 c9 S9 ++ [al D 2 o 1 (fun j => if j = 0 then r else fo j)])) [(6, .long r'), (5, .int (ii 0)), (4, .int (ii (6 * (k : Int)))), (0, .ref b), (1, .ref (g 0)), (2, .ref (gm 0)), (3, .ref o)] 1272 [.int (ii t')]
    refine jr_swapL ?_
    refine jr_iload ok 1 d_La_law_1272 rfl ?_
    refine jr_wicmp_eq 1279 ok ht' (show w32 0 = 0 by decide) d_La_law_1274 (by decide) (fun _ => ?_) (fun z => absurd rfl z)
    refine jr_iload ok 1 d_La_law_1279 rfl ?_
    refine jr_wif_ne 1295 ok (show w32 0 = 0 by decide) d_La_law_1281 (by decide) (fun z => absurd rfl z) (fun _ => ?_)
    refine jr_aload_n ok 6 d_La_law_1284 rfl rfl ?_
    refine jr_iconst ok d_La_law_1285 ?_
    refine jr_lald ok 24 rfl rfl (by decide) (by decide) d_La_law_1286 ?_
    show jw X (601024 - c9.bc) (7293034 - c9.bs) ((wtL D g A9 c9 S9 ++ [al D 2 o 1 (fun j => if j = 0 then r else fo j)]) ++ moL D gm M2) [(6, .long r'), (5, .int (ii 0)), (4, .int (ii (6 * (k : Int)))), (0, .ref b), (1, .ref (g 0)), (2, .ref (gm 0)), (3, .ref o)] 1287 [.long (r)]
    refine jr_lload ok 0 d_La_law_1287 rfl ?_
    refine jr_lif_eq 1295 ok rfl (show (r' : Int64).toInt = (r : Int64).toInt by rw [hr]) d_La_law_1289 d_La_law_1290 (by decide) (fun _ => ?_) (fun z => absurd rfl z)
    refine jr_goto 1398 ok d_La_law_1295 (by decide) ?_
    exact jr_lv [2, 3, 4, 5, 6] rfl (next A9 c9 S9 (fun j => if j = 0 then r else fo j) M2 ⟨Nat.le_trans hφ.1 hcc.1, Nat.le_trans hφ.2 hcc.2⟩ hI9)
  · skip
    refine jr_aload_n ok 2 d_La_law_1243 rfl rfl ?_
    refine jr_aload_n ok 1 d_La_law_1244 rfl rfl ?_
    refine jr_iload ok 0 d_La_law_1245 rfl ?_
    refine jr_iconst ok d_La_law_1247 ?_
    refine jr_iadd ok d_La_law_1248 ?_
    refine jr_sld ok hX hbl hbA hn (by omega) (by omega) d_La_law_1249 ?_
    refine jr_aload_n ok 4 d_La_law_1250 rfl rfl ?_
    refine jh_callS ok hI hTT hNN m_La_138 (jgH_frame (h_La_last (jx_l X) hnt D g A c S o fo ((xs (6 * (k : Int) + 1).toNat).toInt) 3 r c9 S9 1 fo e1 (Or.inr ⟨rfl, rfl, rfl⟩)) (moL D gm M)) (fun _ => rfl) rfl rfl (Nat.le_of_ble_eq_true rfl) ⟨by rw [hR]; exact Nat.le_of_ble_eq_true rfl, by rw [hR]; exact Nat.le_of_ble_eq_true rfl⟩ ⟨by rw [hR]; show 601024 - c.bc + c.bc ≤ 601024; omega, by rw [hR]; show 7293034 - c.bs + c.bs ≤ 7293034; omega⟩ d_La_law_1251 (fun A9 hφ => ?_)
    refine jr_widen (cs' := 601024 - c9.bc) (sl' := 7293034 - c9.bs) (by have := hφ.1; show 601024 - c.bc + (c.bc - c9.bc) ≤ 601024 - c9.bc; omega) (by have := hφ.2; show 7293034 - c.bs + (c.bs - c9.bs) ≤ 7293034 - c9.bs; omega) ?_
    show jw X (601024 - c9.bc) (7293034 - c9.bs) ((wtL D g A9 c9 S9 ++ [al D 2 o 1 fo]) ++ moL D gm M) [(4, .int (ii (6 * (k : Int)))), (0, .ref b), (1, .ref (g 0)), (2, .ref (gm 0)), (3, .ref o)] 1254 [.int (ii 1)]
    refine jr_istore [(5, .int (ii 1)), (4, .int (ii (6 * (k : Int)))), (0, .ref b), (1, .ref (g 0)), (2, .ref (gm 0)), (3, .ref o)] ok d_La_law_1254 (by rw [hN]; decide) rfl ?_
    refine jr_aload_n ok 4 d_La_law_1256 rfl rfl ?_
    refine jr_aload_n ok 2 d_La_law_1257 rfl rfl ?_
    refine jr_iload ok 1 d_La_law_1258 rfl ?_
    refine jr_iconst ok d_La_law_1260 ?_
    refine jr_iadd ok d_La_law_1261 ?_
    refine jr_sld ok hX hbl hbA hn (by omega) (by omega) d_La_law_1262 ?_
    refine jr_swapL ?_
    refine jq_cV1 ok hR m_La_140 (jc_frame (c_Mo_last (jx_l X) D gm M ((xs (6 * (k : Int) + 1).toNat).toInt) r' M1 e2) (wtL D g A9 c9 S9 ++ [al D 2 o 1 fo])) (sg_atk 0 rfl) rfl rfl rfl (Nat.le_of_ble_eq_true rfl) ⟨Nat.le_of_ble_eq_true rfl, Nat.le_of_ble_eq_true rfl⟩ ⟨Nat.sub_le _ _, Nat.sub_le _ _⟩ d_La_law_1263 ?_
    show jw X (601024 - c9.bc) (7293034 - c9.bs) (moL D gm M1 ++ (wtL D g A9 c9 S9 ++ [al D 2 o 1 fo])) [(5, .int (ii 1)), (4, .int (ii (6 * (k : Int)))), (0, .ref b), (1, .ref (g 0)), (2, .ref (gm 0)), (3, .ref o)] 1266 [.long r']
    refine jr_swapL ?_
    refine jr_lstore [(6, .long r'), (5, .int (ii 1)), (4, .int (ii (6 * (k : Int)))), (0, .ref b), (1, .ref (g 0)), (2, .ref (gm 0)), (3, .ref o)] ok d_La_law_1266 (by rw [hN]; decide) rfl ?_
    refine jr_aload_n ok 5 d_La_law_1268 rfl rfl ?_
    refine jr_swapL ?_
    refine jq_cV1 ok hR m_La_85 (jc_frame (c_Mo_thrown (jx_l X) D gm M1 t' M2 e3) (wtL D g A9 c9 S9 ++ [al D 2 o 1 fo])) (sg_atk 0 rfl) rfl rfl rfl (Nat.le_of_ble_eq_true rfl) ⟨Nat.le_of_ble_eq_true rfl, Nat.le_of_ble_eq_true rfl⟩ ⟨Nat.sub_le _ _, Nat.sub_le _ _⟩ d_La_law_1269 ?_
    show jw X (601024 - c9.bc) (7293034 - c9.bs) (moL D gm M2 ++ (wtL D g A9 c9 S9 ++ [al D 2 o 1 fo])) [(6, .long r'), (5, .int (ii 1)), (4, .int (ii (6 * (k : Int)))), (0, .ref b), (1, .ref (g 0)), (2, .ref (gm 0)), (3, .ref o)] 1272 [.int (ii t')]
    refine jr_swapL ?_
    refine jr_iload ok 1 d_La_law_1272 rfl ?_
    refine jr_wicmp_eq 1279 ok ht' (show w32 1 = 1 by decide) d_La_law_1274 (by decide) (fun _ => ?_) (fun z => absurd rfl z)
    refine jr_iload ok 1 d_La_law_1279 rfl ?_
    refine jr_wif_ne 1295 ok (show w32 1 = 1 by decide) d_La_law_1281 (by decide) (fun _ => ?_) (fun z => absurd z (by decide))
    refine jr_goto 1398 ok d_La_law_1295 (by decide) ?_
    exact jr_lv [2, 3, 4, 5, 6] rfl (next A9 c9 S9 fo M2 ⟨Nat.le_trans hφ.1 hcc.1, Nat.le_trans hφ.2 hcc.2⟩ hI9)

set_option maxHeartbeats 4000000 in
set_option maxRecDepth 100000 in
theorem lc_pack {I : Nat → CW → WS → MS → Prop} (st : st_pack I) {X : jx_T} {D : jd_T} {b n o : Nat} {xs : Nat → Int32} {g gm : Nat → Nat} (W : lawW X D b n xs) {k : Nat} {A : AW} {c : CW} {S : WS} {fo : Int → Int64} {M : MS} (hk : k < 512) (hkn : 6 * (k : Int) + 6 ≤ (n : Int)) (hcc : c.bc ≤ 601024 ∧ c.bs ≤ 7293034) (hI0 : I k c S M) (next : ∀ (A : AW) (c : CW) (S : WS) (fo : Int → Int64) (M : MS), (c.bc ≤ 601024 ∧ c.bs ≤ 7293034) → I (k + 1) c S M → jw X (601024 - c.bc) (7293034 - c.bs) ((wtL D g A c S ++ [al D 2 o 1 fo]) ++ moL D gm M) [(4, .int (ii (6 * (k : Int)))), (0, .ref b), (1, .ref (g 0)), (2, .ref (gm 0)), (3, .ref o)] 1398 []) : jw X (601024 - c.bc) (7293034 - c.bs) ((wtL D g A c S ++ [al D 2 o 1 fo]) ++ moL D gm M) [(4, .int (ii (6 * (k : Int)))), (0, .ref b), (1, .ref (g 0)), (2, .ref (gm 0)), (3, .ref o)] 1298 [] := by
  obtain ⟨ok, hI, hTT, hNN, hnt, hR, hN, hX, hbl, hbA, hn0⟩ := W
  have hn : n ≤ 2147483647 := by omega
  obtain ⟨t, r, c9, S9, r', M1, t', M2, e1, e2, e3, hc, hI9⟩ := st k c S M  hk hI0 
  rcases hc with ⟨rfl, ht', hr⟩ | ⟨rfl, ht'⟩
  · skip
    refine jr_aload_n ok 2 d_La_law_1298 rfl rfl ?_
    refine jr_aload_n ok 4 d_La_law_1299 rfl rfl ?_
    refine jh_callS ok hI hTT hNN m_La_141 (jgH_frame (h_La_pack (jx_l X) hnt D g A c S o fo  0 r c9 S9 0 (fun j => if j = 0 then ll (w32 r) else fo j) e1 (Or.inl ⟨rfl, rfl, rfl⟩)) (moL D gm M)) (fun _ => rfl) rfl rfl (Nat.le_of_ble_eq_true rfl) ⟨by rw [hR]; exact Nat.le_of_ble_eq_true rfl, by rw [hR]; exact Nat.le_of_ble_eq_true rfl⟩ ⟨by rw [hR]; show 601024 - c.bc + c.bc ≤ 601024; omega, by rw [hR]; show 7293034 - c.bs + c.bs ≤ 7293034; omega⟩ d_La_law_1300 (fun A9 hφ => ?_)
    refine jr_widen (cs' := 601024 - c9.bc) (sl' := 7293034 - c9.bs) (by have := hφ.1; show 601024 - c.bc + (c.bc - c9.bc) ≤ 601024 - c9.bc; omega) (by have := hφ.2; show 7293034 - c.bs + (c.bs - c9.bs) ≤ 7293034 - c9.bs; omega) ?_
    show jw X (601024 - c9.bc) (7293034 - c9.bs) ((wtL D g A9 c9 S9 ++ [al D 2 o 1 (fun j => if j = 0 then ll (w32 r) else fo j)]) ++ moL D gm M) [(4, .int (ii (6 * (k : Int)))), (0, .ref b), (1, .ref (g 0)), (2, .ref (gm 0)), (3, .ref o)] 1303 [.int (ii 0)]
    refine jr_istore [(5, .int (ii 0)), (4, .int (ii (6 * (k : Int)))), (0, .ref b), (1, .ref (g 0)), (2, .ref (gm 0)), (3, .ref o)] ok d_La_law_1303 (by rw [hN]; decide) rfl ?_
    refine jr_aload_n ok 4 d_La_law_1305 rfl rfl ?_
    refine jr_swapL ?_
    refine jq_cV1 ok hR m_La_143 (jc_frame (c_Mo_pack (jx_l X) D gm M  r' M1 e2) (wtL D g A9 c9 S9 ++ [al D 2 o 1 (fun j => if j = 0 then ll (w32 r) else fo j)])) (sg_atk 0 rfl) rfl rfl rfl (Nat.le_of_ble_eq_true rfl) ⟨Nat.le_of_ble_eq_true rfl, Nat.le_of_ble_eq_true rfl⟩ ⟨Nat.sub_le _ _, Nat.sub_le _ _⟩ d_La_law_1306 ?_
    show jw X (601024 - c9.bc) (7293034 - c9.bs) (moL D gm M1 ++ (wtL D g A9 c9 S9 ++ [al D 2 o 1 (fun j => if j = 0 then ll (w32 r) else fo j)])) [(5, .int (ii 0)), (4, .int (ii (6 * (k : Int)))), (0, .ref b), (1, .ref (g 0)), (2, .ref (gm 0)), (3, .ref o)] 1309 [.int (ii r')]
    refine jr_swapL ?_
    refine jr_istore [(6, .int (ii r')), (5, .int (ii 0)), (4, .int (ii (6 * (k : Int)))), (0, .ref b), (1, .ref (g 0)), (2, .ref (gm 0)), (3, .ref o)] ok d_La_law_1309 (by rw [hN]; decide) rfl ?_
    refine jr_aload_n ok 5 d_La_law_1311 rfl rfl ?_
    refine jr_swapL ?_
    refine jq_cV1 ok hR m_La_85 (jc_frame (c_Mo_thrown (jx_l X) D gm M1 t' M2 e3) (wtL D g A9 c9 S9 ++ [al D 2 o 1 (fun j => if j = 0 then ll (w32 r) else fo j)])) (sg_atk 0 rfl) rfl rfl rfl (Nat.le_of_ble_eq_true rfl) ⟨Nat.le_of_ble_eq_true rfl, Nat.le_of_ble_eq_true rfl⟩ ⟨Nat.sub_le _ _, Nat.sub_le _ _⟩ d_La_law_1312 ?_
    show jw X (601024 - c9.bc) (7293034 - c9.bs) (moL D gm M2 ++ (wtL D g A9 c9 S9 ++ [al D 2 o 1 (fun j => if j = 0 then ll (w32 r) else fo j)])) [(6, .int (ii r')), (5, .int (ii 0)), (4, .int (ii (6 * (k : Int)))), (0, .ref b), (1, .ref (g 0)), (2, .ref (gm 0)), (3, .ref o)] 1315 [.int (ii t')]
    refine jr_swapL ?_
    refine jr_iload ok 1 d_La_law_1315 rfl ?_
    refine jr_wicmp_eq 1322 ok ht' (show w32 0 = 0 by decide) d_La_law_1317 (by decide) (fun _ => ?_) (fun z => absurd rfl z)
    refine jr_iload ok 1 d_La_law_1322 rfl ?_
    refine jr_wif_ne 1339 ok (show w32 0 = 0 by decide) d_La_law_1324 (by decide) (fun z => absurd rfl z) (fun _ => ?_)
    refine jr_aload_n ok 6 d_La_law_1327 rfl rfl ?_
    refine jr_iconst ok d_La_law_1328 ?_
    refine jr_lald ok 24 rfl rfl (by decide) (by decide) d_La_law_1329 ?_
    show jw X (601024 - c9.bc) (7293034 - c9.bs) ((wtL D g A9 c9 S9 ++ [al D 2 o 1 (fun j => if j = 0 then ll (w32 r) else fo j)]) ++ moL D gm M2) [(6, .int (ii r')), (5, .int (ii 0)), (4, .int (ii (6 * (k : Int)))), (0, .ref b), (1, .ref (g 0)), (2, .ref (gm 0)), (3, .ref o)] 1330 [.long (ll (w32 r))]
    refine jr_iload ok 0 d_La_law_1330 rfl ?_
    refine jr_wi2l ok rfl d_La_law_1332 ?_
    refine jr_lif_eq 1339 ok rfl (show (ll (w32 r')).toInt = (ll (w32 r)).toInt by rw [hr]) d_La_law_1333 d_La_law_1334 (by decide) (fun _ => ?_) (fun z => absurd rfl z)
    refine jr_goto 1398 ok d_La_law_1339 (by decide) ?_
    exact jr_lv [2, 3, 4, 5, 6] rfl (next A9 c9 S9 (fun j => if j = 0 then ll (w32 r) else fo j) M2 ⟨Nat.le_trans hφ.1 hcc.1, Nat.le_trans hφ.2 hcc.2⟩ hI9)
  · skip
    refine jr_aload_n ok 2 d_La_law_1298 rfl rfl ?_
    refine jr_aload_n ok 4 d_La_law_1299 rfl rfl ?_
    refine jh_callS ok hI hTT hNN m_La_141 (jgH_frame (h_La_pack (jx_l X) hnt D g A c S o fo  1 r c9 S9 1 fo e1 (Or.inr ⟨rfl, rfl, rfl⟩)) (moL D gm M)) (fun _ => rfl) rfl rfl (Nat.le_of_ble_eq_true rfl) ⟨by rw [hR]; exact Nat.le_of_ble_eq_true rfl, by rw [hR]; exact Nat.le_of_ble_eq_true rfl⟩ ⟨by rw [hR]; show 601024 - c.bc + c.bc ≤ 601024; omega, by rw [hR]; show 7293034 - c.bs + c.bs ≤ 7293034; omega⟩ d_La_law_1300 (fun A9 hφ => ?_)
    refine jr_widen (cs' := 601024 - c9.bc) (sl' := 7293034 - c9.bs) (by have := hφ.1; show 601024 - c.bc + (c.bc - c9.bc) ≤ 601024 - c9.bc; omega) (by have := hφ.2; show 7293034 - c.bs + (c.bs - c9.bs) ≤ 7293034 - c9.bs; omega) ?_
    show jw X (601024 - c9.bc) (7293034 - c9.bs) ((wtL D g A9 c9 S9 ++ [al D 2 o 1 fo]) ++ moL D gm M) [(4, .int (ii (6 * (k : Int)))), (0, .ref b), (1, .ref (g 0)), (2, .ref (gm 0)), (3, .ref o)] 1303 [.int (ii 1)]
    refine jr_istore [(5, .int (ii 1)), (4, .int (ii (6 * (k : Int)))), (0, .ref b), (1, .ref (g 0)), (2, .ref (gm 0)), (3, .ref o)] ok d_La_law_1303 (by rw [hN]; decide) rfl ?_
    refine jr_aload_n ok 4 d_La_law_1305 rfl rfl ?_
    refine jr_swapL ?_
    refine jq_cV1 ok hR m_La_143 (jc_frame (c_Mo_pack (jx_l X) D gm M  r' M1 e2) (wtL D g A9 c9 S9 ++ [al D 2 o 1 fo])) (sg_atk 0 rfl) rfl rfl rfl (Nat.le_of_ble_eq_true rfl) ⟨Nat.le_of_ble_eq_true rfl, Nat.le_of_ble_eq_true rfl⟩ ⟨Nat.sub_le _ _, Nat.sub_le _ _⟩ d_La_law_1306 ?_
    show jw X (601024 - c9.bc) (7293034 - c9.bs) (moL D gm M1 ++ (wtL D g A9 c9 S9 ++ [al D 2 o 1 fo])) [(5, .int (ii 1)), (4, .int (ii (6 * (k : Int)))), (0, .ref b), (1, .ref (g 0)), (2, .ref (gm 0)), (3, .ref o)] 1309 [.int (ii r')]
    refine jr_swapL ?_
    refine jr_istore [(6, .int (ii r')), (5, .int (ii 1)), (4, .int (ii (6 * (k : Int)))), (0, .ref b), (1, .ref (g 0)), (2, .ref (gm 0)), (3, .ref o)] ok d_La_law_1309 (by rw [hN]; decide) rfl ?_
    refine jr_aload_n ok 5 d_La_law_1311 rfl rfl ?_
    refine jr_swapL ?_
    refine jq_cV1 ok hR m_La_85 (jc_frame (c_Mo_thrown (jx_l X) D gm M1 t' M2 e3) (wtL D g A9 c9 S9 ++ [al D 2 o 1 fo])) (sg_atk 0 rfl) rfl rfl rfl (Nat.le_of_ble_eq_true rfl) ⟨Nat.le_of_ble_eq_true rfl, Nat.le_of_ble_eq_true rfl⟩ ⟨Nat.sub_le _ _, Nat.sub_le _ _⟩ d_La_law_1312 ?_
    show jw X (601024 - c9.bc) (7293034 - c9.bs) (moL D gm M2 ++ (wtL D g A9 c9 S9 ++ [al D 2 o 1 fo])) [(6, .int (ii r')), (5, .int (ii 1)), (4, .int (ii (6 * (k : Int)))), (0, .ref b), (1, .ref (g 0)), (2, .ref (gm 0)), (3, .ref o)] 1315 [.int (ii t')]
    refine jr_swapL ?_
    refine jr_iload ok 1 d_La_law_1315 rfl ?_
    refine jr_wicmp_eq 1322 ok ht' (show w32 1 = 1 by decide) d_La_law_1317 (by decide) (fun _ => ?_) (fun z => absurd rfl z)
    refine jr_iload ok 1 d_La_law_1322 rfl ?_
    refine jr_wif_ne 1339 ok (show w32 1 = 1 by decide) d_La_law_1324 (by decide) (fun _ => ?_) (fun z => absurd z (by decide))
    refine jr_goto 1398 ok d_La_law_1339 (by decide) ?_
    exact jr_lv [2, 3, 4, 5, 6] rfl (next A9 c9 S9 fo M2 ⟨Nat.le_trans hφ.1 hcc.1, Nat.le_trans hφ.2 hcc.2⟩ hI9)

set_option maxHeartbeats 4000000 in
set_option maxRecDepth 100000 in
theorem lc_count {I : Nat → CW → WS → MS → Prop} (st : st_count I) {X : jx_T} {D : jd_T} {b n o : Nat} {xs : Nat → Int32} {g gm : Nat → Nat} (W : lawW X D b n xs) {k : Nat} {A : AW} {c : CW} {S : WS} {fo : Int → Int64} {M : MS} (hk : k < 512) (hkn : 6 * (k : Int) + 6 ≤ (n : Int)) (hcc : c.bc ≤ 601024 ∧ c.bs ≤ 7293034) (hI0 : I k c S M) (next : ∀ (A : AW) (c : CW) (S : WS) (fo : Int → Int64) (M : MS), (c.bc ≤ 601024 ∧ c.bs ≤ 7293034) → I (k + 1) c S M → jw X (601024 - c.bc) (7293034 - c.bs) ((wtL D g A c S ++ [al D 2 o 1 fo]) ++ moL D gm M) [(4, .int (ii (6 * (k : Int)))), (0, .ref b), (1, .ref (g 0)), (2, .ref (gm 0)), (3, .ref o)] 1398 []) : jw X (601024 - c.bc) (7293034 - c.bs) ((wtL D g A c S ++ [al D 2 o 1 fo]) ++ moL D gm M) [(4, .int (ii (6 * (k : Int)))), (0, .ref b), (1, .ref (g 0)), (2, .ref (gm 0)), (3, .ref o)] 1342 [] := by
  obtain ⟨ok, hI, hTT, hNN, hnt, hR, hN, hX, hbl, hbA, hn0⟩ := W
  have hn : n ≤ 2147483647 := by omega
  obtain ⟨t, r, c9, S9, r', M1, t', M2, e1, e2, e3, hc, hI9⟩ := st k c S M ((xs (6 * (k : Int) + 1).toNat).toInt) hk hI0 (xs_R _)
  rcases hc with ⟨rfl, ht', hr⟩ | ⟨rfl, ht'⟩
  · skip
    refine jr_aload_n ok 2 d_La_law_1342 rfl rfl ?_
    refine jr_aload_n ok 1 d_La_law_1343 rfl rfl ?_
    refine jr_iload ok 0 d_La_law_1344 rfl ?_
    refine jr_iconst ok d_La_law_1346 ?_
    refine jr_iadd ok d_La_law_1347 ?_
    refine jr_sld ok hX hbl hbA hn (by omega) (by omega) d_La_law_1348 ?_
    refine jr_aload_n ok 4 d_La_law_1349 rfl rfl ?_
    refine jh_callS ok hI hTT hNN m_La_144 (jgH_frame (h_La_count (jx_l X) hnt D g A c S o fo ((xs (6 * (k : Int) + 1).toNat).toInt) 0 r c9 S9 0 (fun j => if j = 0 then ll (w32 r) else fo j) e1 (Or.inl ⟨rfl, rfl, rfl⟩)) (moL D gm M)) (fun _ => rfl) rfl rfl (Nat.le_of_ble_eq_true rfl) ⟨by rw [hR]; exact Nat.le_of_ble_eq_true rfl, by rw [hR]; exact Nat.le_of_ble_eq_true rfl⟩ ⟨by rw [hR]; show 601024 - c.bc + c.bc ≤ 601024; omega, by rw [hR]; show 7293034 - c.bs + c.bs ≤ 7293034; omega⟩ d_La_law_1350 (fun A9 hφ => ?_)
    refine jr_widen (cs' := 601024 - c9.bc) (sl' := 7293034 - c9.bs) (by have := hφ.1; show 601024 - c.bc + (c.bc - c9.bc) ≤ 601024 - c9.bc; omega) (by have := hφ.2; show 7293034 - c.bs + (c.bs - c9.bs) ≤ 7293034 - c9.bs; omega) ?_
    show jw X (601024 - c9.bc) (7293034 - c9.bs) ((wtL D g A9 c9 S9 ++ [al D 2 o 1 (fun j => if j = 0 then ll (w32 r) else fo j)]) ++ moL D gm M) [(4, .int (ii (6 * (k : Int)))), (0, .ref b), (1, .ref (g 0)), (2, .ref (gm 0)), (3, .ref o)] 1353 [.int (ii 0)]
    refine jr_istore [(5, .int (ii 0)), (4, .int (ii (6 * (k : Int)))), (0, .ref b), (1, .ref (g 0)), (2, .ref (gm 0)), (3, .ref o)] ok d_La_law_1353 (by rw [hN]; decide) rfl ?_
    refine jr_aload_n ok 4 d_La_law_1355 rfl rfl ?_
    refine jr_aload_n ok 2 d_La_law_1356 rfl rfl ?_
    refine jr_iload ok 1 d_La_law_1357 rfl ?_
    refine jr_iconst ok d_La_law_1359 ?_
    refine jr_iadd ok d_La_law_1360 ?_
    refine jr_sld ok hX hbl hbA hn (by omega) (by omega) d_La_law_1361 ?_
    refine jr_swapL ?_
    refine jq_cV1 ok hR m_La_146 (jc_frame (c_Mo_count (jx_l X) D gm M ((xs (6 * (k : Int) + 1).toNat).toInt) r' M1 e2) (wtL D g A9 c9 S9 ++ [al D 2 o 1 (fun j => if j = 0 then ll (w32 r) else fo j)])) (sg_atk 0 rfl) rfl rfl rfl (Nat.le_of_ble_eq_true rfl) ⟨Nat.le_of_ble_eq_true rfl, Nat.le_of_ble_eq_true rfl⟩ ⟨Nat.sub_le _ _, Nat.sub_le _ _⟩ d_La_law_1362 ?_
    show jw X (601024 - c9.bc) (7293034 - c9.bs) (moL D gm M1 ++ (wtL D g A9 c9 S9 ++ [al D 2 o 1 (fun j => if j = 0 then ll (w32 r) else fo j)])) [(5, .int (ii 0)), (4, .int (ii (6 * (k : Int)))), (0, .ref b), (1, .ref (g 0)), (2, .ref (gm 0)), (3, .ref o)] 1365 [.int (ii r')]
    refine jr_swapL ?_
    refine jr_istore [(6, .int (ii r')), (5, .int (ii 0)), (4, .int (ii (6 * (k : Int)))), (0, .ref b), (1, .ref (g 0)), (2, .ref (gm 0)), (3, .ref o)] ok d_La_law_1365 (by rw [hN]; decide) rfl ?_
    refine jr_aload_n ok 5 d_La_law_1367 rfl rfl ?_
    refine jr_swapL ?_
    refine jq_cV1 ok hR m_La_85 (jc_frame (c_Mo_thrown (jx_l X) D gm M1 t' M2 e3) (wtL D g A9 c9 S9 ++ [al D 2 o 1 (fun j => if j = 0 then ll (w32 r) else fo j)])) (sg_atk 0 rfl) rfl rfl rfl (Nat.le_of_ble_eq_true rfl) ⟨Nat.le_of_ble_eq_true rfl, Nat.le_of_ble_eq_true rfl⟩ ⟨Nat.sub_le _ _, Nat.sub_le _ _⟩ d_La_law_1368 ?_
    show jw X (601024 - c9.bc) (7293034 - c9.bs) (moL D gm M2 ++ (wtL D g A9 c9 S9 ++ [al D 2 o 1 (fun j => if j = 0 then ll (w32 r) else fo j)])) [(6, .int (ii r')), (5, .int (ii 0)), (4, .int (ii (6 * (k : Int)))), (0, .ref b), (1, .ref (g 0)), (2, .ref (gm 0)), (3, .ref o)] 1371 [.int (ii t')]
    refine jr_swapL ?_
    refine jr_iload ok 1 d_La_law_1371 rfl ?_
    refine jr_wicmp_eq 1378 ok ht' (show w32 0 = 0 by decide) d_La_law_1373 (by decide) (fun _ => ?_) (fun z => absurd rfl z)
    refine jr_iload ok 1 d_La_law_1378 rfl ?_
    refine jr_wif_ne 1395 ok (show w32 0 = 0 by decide) d_La_law_1380 (by decide) (fun z => absurd rfl z) (fun _ => ?_)
    refine jr_aload_n ok 6 d_La_law_1383 rfl rfl ?_
    refine jr_iconst ok d_La_law_1384 ?_
    refine jr_lald ok 24 rfl rfl (by decide) (by decide) d_La_law_1385 ?_
    show jw X (601024 - c9.bc) (7293034 - c9.bs) ((wtL D g A9 c9 S9 ++ [al D 2 o 1 (fun j => if j = 0 then ll (w32 r) else fo j)]) ++ moL D gm M2) [(6, .int (ii r')), (5, .int (ii 0)), (4, .int (ii (6 * (k : Int)))), (0, .ref b), (1, .ref (g 0)), (2, .ref (gm 0)), (3, .ref o)] 1386 [.long (ll (w32 r))]
    refine jr_iload ok 0 d_La_law_1386 rfl ?_
    refine jr_wi2l ok rfl d_La_law_1388 ?_
    refine jr_lif_eq 1395 ok rfl (show (ll (w32 r')).toInt = (ll (w32 r)).toInt by rw [hr]) d_La_law_1389 d_La_law_1390 (by decide) (fun _ => ?_) (fun z => absurd rfl z)
    refine jr_goto 1398 ok d_La_law_1395 (by decide) ?_
    exact jr_lv [2, 3, 4, 5, 6] rfl (next A9 c9 S9 (fun j => if j = 0 then ll (w32 r) else fo j) M2 ⟨Nat.le_trans hφ.1 hcc.1, Nat.le_trans hφ.2 hcc.2⟩ hI9)
  · skip
    refine jr_aload_n ok 2 d_La_law_1342 rfl rfl ?_
    refine jr_aload_n ok 1 d_La_law_1343 rfl rfl ?_
    refine jr_iload ok 0 d_La_law_1344 rfl ?_
    refine jr_iconst ok d_La_law_1346 ?_
    refine jr_iadd ok d_La_law_1347 ?_
    refine jr_sld ok hX hbl hbA hn (by omega) (by omega) d_La_law_1348 ?_
    refine jr_aload_n ok 4 d_La_law_1349 rfl rfl ?_
    refine jh_callS ok hI hTT hNN m_La_144 (jgH_frame (h_La_count (jx_l X) hnt D g A c S o fo ((xs (6 * (k : Int) + 1).toNat).toInt) 2 r c9 S9 1 fo e1 (Or.inr ⟨rfl, rfl, rfl⟩)) (moL D gm M)) (fun _ => rfl) rfl rfl (Nat.le_of_ble_eq_true rfl) ⟨by rw [hR]; exact Nat.le_of_ble_eq_true rfl, by rw [hR]; exact Nat.le_of_ble_eq_true rfl⟩ ⟨by rw [hR]; show 601024 - c.bc + c.bc ≤ 601024; omega, by rw [hR]; show 7293034 - c.bs + c.bs ≤ 7293034; omega⟩ d_La_law_1350 (fun A9 hφ => ?_)
    refine jr_widen (cs' := 601024 - c9.bc) (sl' := 7293034 - c9.bs) (by have := hφ.1; show 601024 - c.bc + (c.bc - c9.bc) ≤ 601024 - c9.bc; omega) (by have := hφ.2; show 7293034 - c.bs + (c.bs - c9.bs) ≤ 7293034 - c9.bs; omega) ?_
    show jw X (601024 - c9.bc) (7293034 - c9.bs) ((wtL D g A9 c9 S9 ++ [al D 2 o 1 fo]) ++ moL D gm M) [(4, .int (ii (6 * (k : Int)))), (0, .ref b), (1, .ref (g 0)), (2, .ref (gm 0)), (3, .ref o)] 1353 [.int (ii 1)]
    refine jr_istore [(5, .int (ii 1)), (4, .int (ii (6 * (k : Int)))), (0, .ref b), (1, .ref (g 0)), (2, .ref (gm 0)), (3, .ref o)] ok d_La_law_1353 (by rw [hN]; decide) rfl ?_
    refine jr_aload_n ok 4 d_La_law_1355 rfl rfl ?_
    refine jr_aload_n ok 2 d_La_law_1356 rfl rfl ?_
    refine jr_iload ok 1 d_La_law_1357 rfl ?_
    refine jr_iconst ok d_La_law_1359 ?_
    refine jr_iadd ok d_La_law_1360 ?_
    refine jr_sld ok hX hbl hbA hn (by omega) (by omega) d_La_law_1361 ?_
    refine jr_swapL ?_
    refine jq_cV1 ok hR m_La_146 (jc_frame (c_Mo_count (jx_l X) D gm M ((xs (6 * (k : Int) + 1).toNat).toInt) r' M1 e2) (wtL D g A9 c9 S9 ++ [al D 2 o 1 fo])) (sg_atk 0 rfl) rfl rfl rfl (Nat.le_of_ble_eq_true rfl) ⟨Nat.le_of_ble_eq_true rfl, Nat.le_of_ble_eq_true rfl⟩ ⟨Nat.sub_le _ _, Nat.sub_le _ _⟩ d_La_law_1362 ?_
    show jw X (601024 - c9.bc) (7293034 - c9.bs) (moL D gm M1 ++ (wtL D g A9 c9 S9 ++ [al D 2 o 1 fo])) [(5, .int (ii 1)), (4, .int (ii (6 * (k : Int)))), (0, .ref b), (1, .ref (g 0)), (2, .ref (gm 0)), (3, .ref o)] 1365 [.int (ii r')]
    refine jr_swapL ?_
    refine jr_istore [(6, .int (ii r')), (5, .int (ii 1)), (4, .int (ii (6 * (k : Int)))), (0, .ref b), (1, .ref (g 0)), (2, .ref (gm 0)), (3, .ref o)] ok d_La_law_1365 (by rw [hN]; decide) rfl ?_
    refine jr_aload_n ok 5 d_La_law_1367 rfl rfl ?_
    refine jr_swapL ?_
    refine jq_cV1 ok hR m_La_85 (jc_frame (c_Mo_thrown (jx_l X) D gm M1 t' M2 e3) (wtL D g A9 c9 S9 ++ [al D 2 o 1 fo])) (sg_atk 0 rfl) rfl rfl rfl (Nat.le_of_ble_eq_true rfl) ⟨Nat.le_of_ble_eq_true rfl, Nat.le_of_ble_eq_true rfl⟩ ⟨Nat.sub_le _ _, Nat.sub_le _ _⟩ d_La_law_1368 ?_
    show jw X (601024 - c9.bc) (7293034 - c9.bs) (moL D gm M2 ++ (wtL D g A9 c9 S9 ++ [al D 2 o 1 fo])) [(6, .int (ii r')), (5, .int (ii 1)), (4, .int (ii (6 * (k : Int)))), (0, .ref b), (1, .ref (g 0)), (2, .ref (gm 0)), (3, .ref o)] 1371 [.int (ii t')]
    refine jr_swapL ?_
    refine jr_iload ok 1 d_La_law_1371 rfl ?_
    refine jr_wicmp_eq 1378 ok ht' (show w32 1 = 1 by decide) d_La_law_1373 (by decide) (fun _ => ?_) (fun z => absurd rfl z)
    refine jr_iload ok 1 d_La_law_1378 rfl ?_
    refine jr_wif_ne 1395 ok (show w32 1 = 1 by decide) d_La_law_1380 (by decide) (fun _ => ?_) (fun z => absurd z (by decide))
    refine jr_goto 1398 ok d_La_law_1395 (by decide) ?_
    exact jr_lv [2, 3, 4, 5, 6] rfl (next A9 c9 S9 fo M2 ⟨Nat.le_trans hφ.1 hcc.1, Nat.le_trans hφ.2 hcc.2⟩ hI9)

theorem ii_and31 (z : Int) : ii z &&& ii 31 = ii (z % 32) := by
  apply Int32.toBitVec_inj.mp
  show (ii z).toBitVec &&& (31 : BitVec 32) = (ii (z % 32)).toBitVec
  apply BitVec.eq_of_toNat_eq
  rw [BitVec.toNat_and]
  show (BitVec.ofInt 32 z).toNat &&& (2 ^ 5 - 1) = (BitVec.ofInt 32 (z % 32)).toNat
  rw [Nat.and_two_pow_sub_one_eq_mod, BitVec.toNat_ofInt, BitVec.toNat_ofInt]
  omega
set_option maxHeartbeats 4000000 in
set_option maxRecDepth 100000 in
theorem law_loop {I : Nat → CW → WS → MS → Prop} (h_feed : st_feed I) (h_end : st_end I) (h_series : st_series I) (h_fault : st_fault I) (h_letter : st_letter I) (h_append : st_append I) (h_bulk : st_bulk I) (h_delete : st_delete I) (h_retain : st_retain I) (h_ask : st_ask I) (h_names : st_names I) (h_text : st_text I) (h_isThere : st_isThere I) (h_cell : st_cell I) (h_last : st_last I) (h_pack : st_pack I) (h_count : st_count I) (h_none : ∀ (k : Nat) (c : CW) (S : WS) (M : MS), k < 512 → I k c S M → I (k + 1) c S M) {X : jx_T} {D : jd_T} {b n o : Nat} {xs : Nat → Int32} {g gm : Nat → Nat} (W : lawW X D b n xs) (hend : ∀ (cs sl : Nat) (L : List sg_A) (lv : List (Nat × Value)), cs ≤ 601024 → sl ≤ 7293034 → jw X cs sl L lv 1405 [.int (ii 1)]) :
    ∀ (m k : Nat) (A : AW) (c : CW) (S : WS) (fo : Int → Int64) (M : MS), k + m = 512 → (c.bc ≤ 601024 ∧ c.bs ≤ 7293034) → I k c S M → jw X (601024 - c.bc) (7293034 - c.bs) ((wtL D g A c S ++ [al D 2 o 1 fo]) ++ moL D gm M) [(4, .int (ii (6 * (k : Int)))), (0, .ref b), (1, .ref (g 0)), (2, .ref (gm 0)), (3, .ref o)] 23 [] := by
  have W0 := W
  obtain ⟨ok, hI, hTT, hNN, hnt, hR, hN, hX, hbl, hbA, hn0⟩ := W
  have hn : n ≤ 2147483647 := by omega
  have exit : ∀ (k : Nat) (A : AW) (c : CW) (S : WS) (fo : Int → Int64) (M : MS), jw X (601024 - c.bc) (7293034 - c.bs) ((wtL D g A c S ++ [al D 2 o 1 fo]) ++ moL D gm M) [(4, .int (ii (6 * (k : Int)))), (0, .ref b), (1, .ref (g 0)), (2, .ref (gm 0)), (3, .ref o)] 1404 [] := by
    intro k A c S fo M
    refine jr_iconst ok d_La_law_1404 ?_
    exact hend _ _ _ _ (Nat.sub_le _ _) (Nat.sub_le _ _)
  have hd : ∀ (k : Nat) (A : AW) (c : CW) (S : WS) (fo : Int → Int64) (M : MS), k ≤ 512 → (6 * (k : Int) + 6 ≤ (n : Int) → jw X (601024 - c.bc) (7293034 - c.bs) ((wtL D g A c S ++ [al D 2 o 1 fo]) ++ moL D gm M) [(4, .int (ii (6 * (k : Int)))), (0, .ref b), (1, .ref (g 0)), (2, .ref (gm 0)), (3, .ref o)] 33 []) → jw X (601024 - c.bc) (7293034 - c.bs) ((wtL D g A c S ++ [al D 2 o 1 fo]) ++ moL D gm M) [(4, .int (ii (6 * (k : Int)))), (0, .ref b), (1, .ref (g 0)), (2, .ref (gm 0)), (3, .ref o)] 23 [] := by
    intro k A c S fo M hk kk
    refine jr_iload ok 0 d_La_law_23 rfl ?_
    refine jr_aload_n ok 1 d_La_law_25 rfl rfl ?_
    refine jr_slen ok hX hbl hbA d_La_law_26 ?_
    refine jr_bipush ok d_La_law_27 (by decide +kernel) ?_
    refine jr_isub ok d_La_law_29 ?_
    refine jr_icmp_gt 1404 ok ⟨by omega, by omega⟩ ⟨by omega, by omega⟩ d_La_law_30 (by decide) (fun c1 => ?_) (fun c1 => ?_)
    · exact exit k A c S fo M
    · exact kk (by omega)
  intro m
  induction m with
  | zero =>
    intro k A c S fo M hkm hcc hI0
    exact hd k A c S fo M (by omega) (fun z => absurd z (by omega))
  | succ m ih =>
    intro k A c S fo M hkm hcc hI0
    refine hd k A c S fo M (by omega) (fun hkn => ?_)
    have hk : k < 512 := by omega
    have next : ∀ (A : AW) (c : CW) (S : WS) (fo : Int → Int64) (M : MS), (c.bc ≤ 601024 ∧ c.bs ≤ 7293034) → I (k + 1) c S M → jw X (601024 - c.bc) (7293034 - c.bs) ((wtL D g A c S ++ [al D 2 o 1 fo]) ++ moL D gm M) [(4, .int (ii (6 * (k : Int)))), (0, .ref b), (1, .ref (g 0)), (2, .ref (gm 0)), (3, .ref o)] 1398 [] := by
      intro A c S fo M hcc hI1
      refine jr_iinc [(4, .int (ii (6 * (k : Int) + 6))), (0, .ref b), (1, .ref (g 0)), (2, .ref (gm 0)), (3, .ref o)] 0 ok d_La_law_1398 rfl (by rw [hN]; decide) rfl ?_
      refine jr_goto 23 ok d_La_law_1401 (by decide) ?_
      have := ih (k + 1) A c S fo M (by omega) hcc hI1
      rw [show 6 * ((k + 1 : Nat) : Int) = 6 * (k : Int) + 6 by omega] at this
      exact this
    refine jr_aload_n ok 1 d_La_law_33 rfl rfl ?_
    refine jr_iload ok 0 d_La_law_34 rfl ?_
    refine jr_sld ok hX hbl hbA hn (by omega) (by omega) d_La_law_36 ?_
    refine jr_bipush ok d_La_law_37 (by decide +kernel) ?_
    refine jr_iand (z := (xs (6 * (k : Int)).toNat).toInt % 32) ok d_La_law_39 (ii_and31 _) ?_
    have hz0 : 0 ≤ (xs (6 * (k : Int)).toNat).toInt % 32 ∧ (xs (6 * (k : Int)).toNat).toInt % 32 < 32 := ⟨by omega, by omega⟩
    generalize (xs (6 * (k : Int)).toNat).toInt % 32 = z at hz0 ⊢
    have hz : iR z := ⟨by omega, by omega⟩
    rcases (show z = 0 ∨ z = 1 ∨ z = 2 ∨ z = 3 ∨ z = 4 ∨ z = 5 ∨ z = 6 ∨ z = 7 ∨ z = 8 ∨ z = 9 ∨ z = 10 ∨ z = 11 ∨ z = 12 ∨ z = 13 ∨ z = 14 ∨ z = 15 ∨ z = 16 ∨ 16 < z by omega) with rfl | rfl | rfl | rfl | rfl | rfl | rfl | rfl | rfl | rfl | rfl | rfl | rfl | rfl | rfl | rfl | rfl | hz9
    · exact jr_tableIn 124 ok hz d_La_law_40 (by decide) (by decide) rfl (by decide) (lc_feed h_feed W0 hk hkn hcc hI0 next)
    · exact jr_tableIn 228 ok hz d_La_law_40 (by decide) (by decide) rfl (by decide) (lc_end h_end W0 hk hkn hcc hI0 next)
    · exact jr_tableIn 264 ok hz d_La_law_40 (by decide) (by decide) rfl (by decide) (lc_series h_series W0 hk hkn hcc hI0 next)
    · exact jr_tableIn 308 ok hz d_La_law_40 (by decide) (by decide) rfl (by decide) (lc_fault h_fault W0 hk hkn hcc hI0 next)
    · exact jr_tableIn 364 ok hz d_La_law_40 (by decide) (by decide) rfl (by decide) (lc_letter h_letter W0 hk hkn hcc hI0 next)
    · exact jr_tableIn 432 ok hz d_La_law_40 (by decide) (by decide) rfl (by decide) (lc_append h_append W0 hk hkn hcc hI0 next)
    · exact jr_tableIn 576 ok hz d_La_law_40 (by decide) (by decide) rfl (by decide) (lc_bulk h_bulk W0 hk hkn hcc hI0 next)
    · exact jr_tableIn 632 ok hz d_La_law_40 (by decide) (by decide) rfl (by decide) (lc_delete h_delete W0 hk hkn hcc hI0 next)
    · exact jr_tableIn 776 ok hz d_La_law_40 (by decide) (by decide) rfl (by decide) (lc_retain h_retain W0 hk hkn hcc hI0 next)
    · exact jr_tableIn 864 ok hz d_La_law_40 (by decide) (by decide) rfl (by decide) (lc_ask h_ask W0 hk hkn hcc hI0 next)
    · exact jr_tableIn 1008 ok hz d_La_law_40 (by decide) (by decide) rfl (by decide) (lc_names h_names W0 hk hkn hcc hI0 next)
    · exact jr_tableIn 1021 ok hz d_La_law_40 (by decide) (by decide) rfl (by decide) (lc_text h_text W0 hk hkn hcc hI0 next)
    · exact jr_tableIn 1101 ok hz d_La_law_40 (by decide) (by decide) rfl (by decide) (lc_isThere h_isThere W0 hk hkn hcc hI0 next)
    · exact jr_tableIn 1176 ok hz d_La_law_40 (by decide) (by decide) rfl (by decide) (lc_cell h_cell W0 hk hkn hcc hI0 next)
    · exact jr_tableIn 1243 ok hz d_La_law_40 (by decide) (by decide) rfl (by decide) (lc_last h_last W0 hk hkn hcc hI0 next)
    · exact jr_tableIn 1298 ok hz d_La_law_40 (by decide) (by decide) rfl (by decide) (lc_pack h_pack W0 hk hkn hcc hI0 next)
    · exact jr_tableIn 1342 ok hz d_La_law_40 (by decide) (by decide) rfl (by decide) (lc_count h_count W0 hk hkn hcc hI0 next)
    · exact jr_tableOut 1398 ok hz d_La_law_40 (Or.inr hz9) (by decide) (next A c S fo M hcc (h_none k c S M hk hI0))
