section JO
variable {X : jx_T} {D : jd_T} {cc : ByteArray} {own : String} {ret : Option FieldType} {cs sl : Nat} {L : List sg_A} {lv : List (Nat × Value)} {pc : Nat} {st : List Value} {RM : Room}
theorem jr_copy2i {index t a : Nat} {n1 sp dp n : Int} {ty : FieldType} {a0 : Nat} {n0 : Int} {f g : Int → Int} (L' : List sg_A) (ok : jx_ok X D cc own ret) (hR : jx_R X = RM) (hl : Cond.methodLink own index arraycopyName ∈ jw_all) (hn9 : Cond.native arraycopyName ∈ jw_all) (hs9 : Cond.static arraycopyName ∈ jw_all) (hi9 : Cond.initialized "java/lang/System" ∈ jw_all) (q0 q1 : Nat) (hq0 : L[q0]? = some (ai D t a0 n0 f)) (hq1 : L[q1]? = some (ai D t a n1 g)) (ht : (jk_tys D.2)[t]? = some (D.2 t, ty)) (hprim : refKind ty = false) (h1 : 0 ≤ sp) (h2 : 0 ≤ dp) (h3 : 0 ≤ n) (h4 : sp + n ≤ n0) (h5 : dp + n ≤ n1) (hfit : ∀ i, sp ≤ i → i < sp + n → fits ty (.int (ii (f i))) = true) (hF : 1 ≤ RM.frames ∧ 40 ≤ RM.locals) (hw : (st.map fun v => v.category).sum ≤ 8) (hL : L.set q1 (ai D t a n1 (fun j => if dp ≤ j ∧ j < dp + n then f (sp + (j - dp)) else g j)) = L') (d : decode cc pc = .ok (.invokestatic index, 3))
    (kk : jw X cs sl L' lv (pc + 3) st) : jw X cs sl L lv pc (.int (ii n) :: .int (ii dp) :: .ref a :: .int (ii sp) :: .ref a0 :: st) := by
  intro h H locs ls h6 h7 h8 h9 h10
  subst hR
  have hb1 : n1 ≤ 2147483647 := by
    obtain ⟨f9, g9, dj, he, hp, mk⟩ := sg_pull L q1 _ h hq1 h6
    exact hp.2.1
  have hb0 : n0 ≤ 2147483647 := by
    obtain ⟨f9, g9, dj, he, hp, mk⟩ := sg_pull L q0 _ h hq0 h6
    exact hp.2.1
  have hc0 := jr_cell hq0 (fun f9 hp => hp.2.2) h6 h7
  have hc1 := jr_cell hq1 (fun f9 hp => hp.2.2) h6 h7
  have r1 : iR sp := ⟨by omega, by omega⟩
  have r2 : iR dp := ⟨by omega, by omega⟩
  have r3 : iR n := ⟨by omega, by omega⟩
  have hta := (ok.2.2.2.2.2.2.2.1.1.2 t _ ht).1
  refine W_copyi (f := fun j => ii (f (j : Int))) (g := fun j => ii (g (j : Int))) (ty := ty) ok.1 ok.2.1 (ok.2.2.1.trans h10.1.symm) ok.2.2.2.1 (ok.2.2.2.2.1 _ hl) (ok.2.2.2.2.1 _ hn9) (ok.2.2.2.2.1 _ hs9) (ok.2.2.2.2.1 _ hi9) hc0 hc1 hta hta hprim (ii_nneg r1 h1) (ii_nneg r2 h2) (ii_nneg r3 h3)
    (by rw [ii_clamp r1, ii_clamp r3]; omega) (by rw [ii_clamp r2, ii_clamp r3]; omega) (fun i hi => by
      rw [ii_clamp r3] at hi
      rw [ii_clamp r1]
      have := hfit ((sp.toNat + i : Nat) : Int) (by omega) (by omega)
      exact this) hF.1 (by have := hF.2; rw [show nativeFrameWords "java/lang/System" "arraycopy" 5 = 7 from by decide +kernel]; omega) d fun H1 L1 e1 e2 e3 e4 => ?_
  obtain ⟨f9, g9, dj, he, hp, mk⟩ := sg_pull L q1 _ h hq1 h6
  have hf9 := hp.2.2
  subst hf9
  subst he
  have hA : jx_A X a := h8 a _ (sg_un_l (sg_1_at a _))
  have hcell : H1[a]? = some (arrV (D.2 t) n1.toNat (fun j => .int (ii ((fun j => if dp ≤ j ∧ j < dp + n then f (sp + (j - dp)) else g j) (j : Int))))) := by
    rw [e1]
    congr 2
    funext j
    rw [ii_clamp r1, ii_clamp r2, ii_clamp r3]
    simp only [va_cpy]
    by_cases hj : dp.toNat ≤ j ∧ j < dp.toNat + n.toNat
    · rw [if_pos hj, if_pos (by omega)]
      congr 2
      congr 1
      omega
    · rw [if_neg hj, if_neg (by omega)]
  have hnew := mk (ai D t a n1 (fun j => if dp ≤ j ∧ j < dp + n then f (sp + (j - dp)) else g j)) _ ⟨hp.1, hb1, rfl⟩ (sg_1_dj dj)
  rw [hL] at hnew
  refine kk _ H1 _ ls hnew (sg_in_set dj h7 hcell e3) (fun q c hqc => ?_) ⟨by rw [e2]; exact h9.1, fun q g1 g2 => by
      rw [e3 q (fun z => g2 (by rw [z]; exact hA))]
      exact h9.2.1 q g1 g2, fun q hq => by
      rcases List.mem_append.mp hq with z | z
      · exact h9.2.2 q z
      · rw [e4 q z]; exact hA⟩ h10
  rcases sg_un_some hqc with z | z
  · rw [(sg_1_some z).1]; exact hA
  · exact h8 q c (by rw [sg_un_comm dj]; exact sg_un_l z)
theorem jr_copy1i {index t a : Nat} {n1 sp dp n : Int} {ty : FieldType} {f : Int → Int} (L' : List sg_A) (ok : jx_ok X D cc own ret) (hR : jx_R X = RM) (hl : Cond.methodLink own index arraycopyName ∈ jw_all) (hn9 : Cond.native arraycopyName ∈ jw_all) (hs9 : Cond.static arraycopyName ∈ jw_all) (hi9 : Cond.initialized "java/lang/System" ∈ jw_all) (q1 : Nat) (hq1 : L[q1]? = some (ai D t a n1 f)) (ht : (jk_tys D.2)[t]? = some (D.2 t, ty)) (hprim : refKind ty = false) (h1 : 0 ≤ sp) (h2 : 0 ≤ dp) (h3 : 0 ≤ n) (h4 : sp + n ≤ n1) (h5 : dp + n ≤ n1) (hfit : ∀ i, sp ≤ i → i < sp + n → fits ty (.int (ii (f i))) = true) (hF : 1 ≤ RM.frames ∧ 40 ≤ RM.locals) (hw : (st.map fun v => v.category).sum ≤ 8) (hL : L.set q1 (ai D t a n1 (fun j => if dp ≤ j ∧ j < dp + n then f (sp + (j - dp)) else f j)) = L') (d : decode cc pc = .ok (.invokestatic index, 3))
    (kk : jw X cs sl L' lv (pc + 3) st) : jw X cs sl L lv pc (.int (ii n) :: .int (ii dp) :: .ref a :: .int (ii sp) :: .ref a :: st) := by
  intro h H locs ls h6 h7 h8 h9 h10
  subst hR
  have hb1 : n1 ≤ 2147483647 := by
    obtain ⟨f9, g9, dj, he, hp, mk⟩ := sg_pull L q1 _ h hq1 h6
    exact hp.2.1
  have hb0 : n1 ≤ 2147483647 := by
    obtain ⟨f9, g9, dj, he, hp, mk⟩ := sg_pull L q1 _ h hq1 h6
    exact hp.2.1
  have hc0 := jr_cell hq1 (fun f9 hp => hp.2.2) h6 h7
  have hc1 := jr_cell hq1 (fun f9 hp => hp.2.2) h6 h7
  have r1 : iR sp := ⟨by omega, by omega⟩
  have r2 : iR dp := ⟨by omega, by omega⟩
  have r3 : iR n := ⟨by omega, by omega⟩
  have hta := (ok.2.2.2.2.2.2.2.1.1.2 t _ ht).1
  refine W_copyi (f := fun j => ii (f (j : Int))) (g := fun j => ii (f (j : Int))) (ty := ty) ok.1 ok.2.1 (ok.2.2.1.trans h10.1.symm) ok.2.2.2.1 (ok.2.2.2.2.1 _ hl) (ok.2.2.2.2.1 _ hn9) (ok.2.2.2.2.1 _ hs9) (ok.2.2.2.2.1 _ hi9) hc0 hc1 hta hta hprim (ii_nneg r1 h1) (ii_nneg r2 h2) (ii_nneg r3 h3)
    (by rw [ii_clamp r1, ii_clamp r3]; omega) (by rw [ii_clamp r2, ii_clamp r3]; omega) (fun i hi => by
      rw [ii_clamp r3] at hi
      rw [ii_clamp r1]
      have := hfit ((sp.toNat + i : Nat) : Int) (by omega) (by omega)
      exact this) hF.1 (by have := hF.2; rw [show nativeFrameWords "java/lang/System" "arraycopy" 5 = 7 from by decide +kernel]; omega) d fun H1 L1 e1 e2 e3 e4 => ?_
  obtain ⟨f9, g9, dj, he, hp, mk⟩ := sg_pull L q1 _ h hq1 h6
  have hf9 := hp.2.2
  subst hf9
  subst he
  have hA : jx_A X a := h8 a _ (sg_un_l (sg_1_at a _))
  have hcell : H1[a]? = some (arrV (D.2 t) n1.toNat (fun j => .int (ii ((fun j => if dp ≤ j ∧ j < dp + n then f (sp + (j - dp)) else f j) (j : Int))))) := by
    rw [e1]
    congr 2
    funext j
    rw [ii_clamp r1, ii_clamp r2, ii_clamp r3]
    simp only [va_cpy]
    by_cases hj : dp.toNat ≤ j ∧ j < dp.toNat + n.toNat
    · rw [if_pos hj, if_pos (by omega)]
      congr 2
      congr 1
      omega
    · rw [if_neg hj, if_neg (by omega)]
  have hnew := mk (ai D t a n1 (fun j => if dp ≤ j ∧ j < dp + n then f (sp + (j - dp)) else f j)) _ ⟨hp.1, hb1, rfl⟩ (sg_1_dj dj)
  rw [hL] at hnew
  refine kk _ H1 _ ls hnew (sg_in_set dj h7 hcell e3) (fun q c hqc => ?_) ⟨by rw [e2]; exact h9.1, fun q g1 g2 => by
      rw [e3 q (fun z => g2 (by rw [z]; exact hA))]
      exact h9.2.1 q g1 g2, fun q hq => by
      rcases List.mem_append.mp hq with z | z
      · exact h9.2.2 q z
      · rw [e4 q z]; exact hA⟩ h10
  rcases sg_un_some hqc with z | z
  · rw [(sg_1_some z).1]; exact hA
  · exact h8 q c (by rw [sg_un_comm dj]; exact sg_un_l z)
theorem jr_copy2l {index t a : Nat} {n1 sp dp n : Int} {ty : FieldType} {a0 : Nat} {n0 : Int} {f g : Int → Int64} (L' : List sg_A) (ok : jx_ok X D cc own ret) (hR : jx_R X = RM) (hl : Cond.methodLink own index arraycopyName ∈ jw_all) (hn9 : Cond.native arraycopyName ∈ jw_all) (hs9 : Cond.static arraycopyName ∈ jw_all) (hi9 : Cond.initialized "java/lang/System" ∈ jw_all) (q0 q1 : Nat) (hq0 : L[q0]? = some (al D t a0 n0 f)) (hq1 : L[q1]? = some (al D t a n1 g)) (ht : (jk_tys D.2)[t]? = some (D.2 t, ty)) (hprim : refKind ty = false) (h1 : 0 ≤ sp) (h2 : 0 ≤ dp) (h3 : 0 ≤ n) (h4 : sp + n ≤ n0) (h5 : dp + n ≤ n1) (hfit : ∀ i, sp ≤ i → i < sp + n → fits ty (.long (f i)) = true) (hF : 1 ≤ RM.frames ∧ 40 ≤ RM.locals) (hw : (st.map fun v => v.category).sum ≤ 8) (hL : L.set q1 (al D t a n1 (fun j => if dp ≤ j ∧ j < dp + n then f (sp + (j - dp)) else g j)) = L') (d : decode cc pc = .ok (.invokestatic index, 3))
    (kk : jw X cs sl L' lv (pc + 3) st) : jw X cs sl L lv pc (.int (ii n) :: .int (ii dp) :: .ref a :: .int (ii sp) :: .ref a0 :: st) := by
  intro h H locs ls h6 h7 h8 h9 h10
  subst hR
  have hb1 : n1 ≤ 2147483647 := by
    obtain ⟨f9, g9, dj, he, hp, mk⟩ := sg_pull L q1 _ h hq1 h6
    exact hp.2.1
  have hb0 : n0 ≤ 2147483647 := by
    obtain ⟨f9, g9, dj, he, hp, mk⟩ := sg_pull L q0 _ h hq0 h6
    exact hp.2.1
  have hc0 := jr_cell hq0 (fun f9 hp => hp.2.2) h6 h7
  have hc1 := jr_cell hq1 (fun f9 hp => hp.2.2) h6 h7
  have r1 : iR sp := ⟨by omega, by omega⟩
  have r2 : iR dp := ⟨by omega, by omega⟩
  have r3 : iR n := ⟨by omega, by omega⟩
  have hta := (ok.2.2.2.2.2.2.2.1.1.2 t _ ht).1
  refine W_copyl (f := fun j => f (j : Int)) (g := fun j => g (j : Int)) (ty := ty) ok.1 ok.2.1 (ok.2.2.1.trans h10.1.symm) ok.2.2.2.1 (ok.2.2.2.2.1 _ hl) (ok.2.2.2.2.1 _ hn9) (ok.2.2.2.2.1 _ hs9) (ok.2.2.2.2.1 _ hi9) hc0 hc1 hta hta hprim (ii_nneg r1 h1) (ii_nneg r2 h2) (ii_nneg r3 h3)
    (by rw [ii_clamp r1, ii_clamp r3]; omega) (by rw [ii_clamp r2, ii_clamp r3]; omega) (fun i hi => by
      rw [ii_clamp r3] at hi
      rw [ii_clamp r1]
      have := hfit ((sp.toNat + i : Nat) : Int) (by omega) (by omega)
      exact this) hF.1 (by have := hF.2; rw [show nativeFrameWords "java/lang/System" "arraycopy" 5 = 7 from by decide +kernel]; omega) d fun H1 L1 e1 e2 e3 e4 => ?_
  obtain ⟨f9, g9, dj, he, hp, mk⟩ := sg_pull L q1 _ h hq1 h6
  have hf9 := hp.2.2
  subst hf9
  subst he
  have hA : jx_A X a := h8 a _ (sg_un_l (sg_1_at a _))
  have hcell : H1[a]? = some (arrV (D.2 t) n1.toNat (fun j => .long ((fun j => if dp ≤ j ∧ j < dp + n then f (sp + (j - dp)) else g j) (j : Int)))) := by
    rw [e1]
    congr 2
    funext j
    rw [ii_clamp r1, ii_clamp r2, ii_clamp r3]
    simp only [va_cpy]
    by_cases hj : dp.toNat ≤ j ∧ j < dp.toNat + n.toNat
    · rw [if_pos hj, if_pos (by omega)]
      congr 2
      skip
      omega
    · rw [if_neg hj, if_neg (by omega)]
  have hnew := mk (al D t a n1 (fun j => if dp ≤ j ∧ j < dp + n then f (sp + (j - dp)) else g j)) _ ⟨hp.1, hb1, rfl⟩ (sg_1_dj dj)
  rw [hL] at hnew
  refine kk _ H1 _ ls hnew (sg_in_set dj h7 hcell e3) (fun q c hqc => ?_) ⟨by rw [e2]; exact h9.1, fun q g1 g2 => by
      rw [e3 q (fun z => g2 (by rw [z]; exact hA))]
      exact h9.2.1 q g1 g2, fun q hq => by
      rcases List.mem_append.mp hq with z | z
      · exact h9.2.2 q z
      · rw [e4 q z]; exact hA⟩ h10
  rcases sg_un_some hqc with z | z
  · rw [(sg_1_some z).1]; exact hA
  · exact h8 q c (by rw [sg_un_comm dj]; exact sg_un_l z)
theorem jr_copy1l {index t a : Nat} {n1 sp dp n : Int} {ty : FieldType} {f : Int → Int64} (L' : List sg_A) (ok : jx_ok X D cc own ret) (hR : jx_R X = RM) (hl : Cond.methodLink own index arraycopyName ∈ jw_all) (hn9 : Cond.native arraycopyName ∈ jw_all) (hs9 : Cond.static arraycopyName ∈ jw_all) (hi9 : Cond.initialized "java/lang/System" ∈ jw_all) (q1 : Nat) (hq1 : L[q1]? = some (al D t a n1 f)) (ht : (jk_tys D.2)[t]? = some (D.2 t, ty)) (hprim : refKind ty = false) (h1 : 0 ≤ sp) (h2 : 0 ≤ dp) (h3 : 0 ≤ n) (h4 : sp + n ≤ n1) (h5 : dp + n ≤ n1) (hfit : ∀ i, sp ≤ i → i < sp + n → fits ty (.long (f i)) = true) (hF : 1 ≤ RM.frames ∧ 40 ≤ RM.locals) (hw : (st.map fun v => v.category).sum ≤ 8) (hL : L.set q1 (al D t a n1 (fun j => if dp ≤ j ∧ j < dp + n then f (sp + (j - dp)) else f j)) = L') (d : decode cc pc = .ok (.invokestatic index, 3))
    (kk : jw X cs sl L' lv (pc + 3) st) : jw X cs sl L lv pc (.int (ii n) :: .int (ii dp) :: .ref a :: .int (ii sp) :: .ref a :: st) := by
  intro h H locs ls h6 h7 h8 h9 h10
  subst hR
  have hb1 : n1 ≤ 2147483647 := by
    obtain ⟨f9, g9, dj, he, hp, mk⟩ := sg_pull L q1 _ h hq1 h6
    exact hp.2.1
  have hb0 : n1 ≤ 2147483647 := by
    obtain ⟨f9, g9, dj, he, hp, mk⟩ := sg_pull L q1 _ h hq1 h6
    exact hp.2.1
  have hc0 := jr_cell hq1 (fun f9 hp => hp.2.2) h6 h7
  have hc1 := jr_cell hq1 (fun f9 hp => hp.2.2) h6 h7
  have r1 : iR sp := ⟨by omega, by omega⟩
  have r2 : iR dp := ⟨by omega, by omega⟩
  have r3 : iR n := ⟨by omega, by omega⟩
  have hta := (ok.2.2.2.2.2.2.2.1.1.2 t _ ht).1
  refine W_copyl (f := fun j => f (j : Int)) (g := fun j => f (j : Int)) (ty := ty) ok.1 ok.2.1 (ok.2.2.1.trans h10.1.symm) ok.2.2.2.1 (ok.2.2.2.2.1 _ hl) (ok.2.2.2.2.1 _ hn9) (ok.2.2.2.2.1 _ hs9) (ok.2.2.2.2.1 _ hi9) hc0 hc1 hta hta hprim (ii_nneg r1 h1) (ii_nneg r2 h2) (ii_nneg r3 h3)
    (by rw [ii_clamp r1, ii_clamp r3]; omega) (by rw [ii_clamp r2, ii_clamp r3]; omega) (fun i hi => by
      rw [ii_clamp r3] at hi
      rw [ii_clamp r1]
      have := hfit ((sp.toNat + i : Nat) : Int) (by omega) (by omega)
      exact this) hF.1 (by have := hF.2; rw [show nativeFrameWords "java/lang/System" "arraycopy" 5 = 7 from by decide +kernel]; omega) d fun H1 L1 e1 e2 e3 e4 => ?_
  obtain ⟨f9, g9, dj, he, hp, mk⟩ := sg_pull L q1 _ h hq1 h6
  have hf9 := hp.2.2
  subst hf9
  subst he
  have hA : jx_A X a := h8 a _ (sg_un_l (sg_1_at a _))
  have hcell : H1[a]? = some (arrV (D.2 t) n1.toNat (fun j => .long ((fun j => if dp ≤ j ∧ j < dp + n then f (sp + (j - dp)) else f j) (j : Int)))) := by
    rw [e1]
    congr 2
    funext j
    rw [ii_clamp r1, ii_clamp r2, ii_clamp r3]
    simp only [va_cpy]
    by_cases hj : dp.toNat ≤ j ∧ j < dp.toNat + n.toNat
    · rw [if_pos hj, if_pos (by omega)]
      congr 2
      skip
      omega
    · rw [if_neg hj, if_neg (by omega)]
  have hnew := mk (al D t a n1 (fun j => if dp ≤ j ∧ j < dp + n then f (sp + (j - dp)) else f j)) _ ⟨hp.1, hb1, rfl⟩ (sg_1_dj dj)
  rw [hL] at hnew
  refine kk _ H1 _ ls hnew (sg_in_set dj h7 hcell e3) (fun q c hqc => ?_) ⟨by rw [e2]; exact h9.1, fun q g1 g2 => by
      rw [e3 q (fun z => g2 (by rw [z]; exact hA))]
      exact h9.2.1 q g1 g2, fun q hq => by
      rcases List.mem_append.mp hq with z | z
      · exact h9.2.2 q z
      · rw [e4 q z]; exact hA⟩ h10
  rcases sg_un_some hqc with z | z
  · rw [(sg_1_some z).1]; exact hA
  · exact h8 q c (by rw [sg_un_comm dj]; exact sg_un_l z)
end JO
