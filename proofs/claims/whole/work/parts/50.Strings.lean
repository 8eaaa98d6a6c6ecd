abbrev y_J_String_coder_B : MethodName := ⟨"java/lang/String", "coder", "()B"⟩
abbrev y_J_String_isLatin1_Z : MethodName := ⟨"java/lang/String", "isLatin1", "()Z"⟩
abbrev y_J_StringLatin1_charAt_BIC : MethodName := ⟨"java/lang/StringLatin1", "charAt", "([BI)C"⟩
abbrev y_J_String_checkIndex_IIV : MethodName := ⟨"java/lang/String", "checkIndex", "(II)V"⟩
abbrev y_J_Preconditions_checkIndex : MethodName := ⟨"jdk/internal/util/Preconditions", "checkIndex", "(IILjava/util/function/BiFunction;)I"⟩
abbrev b_J_String_length_I : ByteArray := prog_22_method_54_code
theorem d_J_String_length_I_0 : decode b_J_String_length_I 0 = .ok (.aload_n 0, 1) := by decide +kernel
theorem d_J_String_length_I_1 : decode b_J_String_length_I 1 = .ok (.getfield 9, 3) := by decide +kernel
theorem d_J_String_length_I_4 : decode b_J_String_length_I 4 = .ok (.arraylength, 1) := by decide +kernel
theorem d_J_String_length_I_5 : decode b_J_String_length_I 5 = .ok (.aload_n 0, 1) := by decide +kernel
theorem d_J_String_length_I_6 : decode b_J_String_length_I 6 = .ok (.invokevirtual 335, 3) := by decide +kernel
theorem d_J_String_length_I_9 : decode b_J_String_length_I 9 = .ok (.ishr, 1) := by decide +kernel
theorem d_J_String_length_I_10 : decode b_J_String_length_I 10 = .ok (.ireturn, 1) := by decide +kernel
abbrev b_J_String_coder_B : ByteArray := prog_22_method_152_code
theorem d_J_String_coder_B_0 : decode b_J_String_coder_B 0 = .ok (.getstatic 38, 3) := by decide +kernel
theorem d_J_String_coder_B_3 : decode b_J_String_coder_B 3 = .ok (.ifCond .eq 10, 3) := by decide +kernel
theorem d_J_String_coder_B_6 : decode b_J_String_coder_B 6 = .ok (.aload_n 0, 1) := by decide +kernel
theorem d_J_String_coder_B_7 : decode b_J_String_coder_B 7 = .ok (.getfield 15, 3) := by decide +kernel
theorem d_J_String_coder_B_10 : decode b_J_String_coder_B 10 = .ok (.goto 4, 3) := by decide +kernel
theorem d_J_String_coder_B_13 : decode b_J_String_coder_B 13 = .ok (.iconst 1, 1) := by decide +kernel
theorem d_J_String_coder_B_14 : decode b_J_String_coder_B 14 = .ok (.ireturn, 1) := by decide +kernel
abbrev b_J_String_isLatin1_Z : ByteArray := prog_22_method_154_code
theorem d_J_String_isLatin1_Z_0 : decode b_J_String_isLatin1_Z 0 = .ok (.getstatic 38, 3) := by decide +kernel
theorem d_J_String_isLatin1_Z_3 : decode b_J_String_isLatin1_Z 3 = .ok (.ifCond .eq 14, 3) := by decide +kernel
theorem d_J_String_isLatin1_Z_6 : decode b_J_String_isLatin1_Z 6 = .ok (.aload_n 0, 1) := by decide +kernel
theorem d_J_String_isLatin1_Z_7 : decode b_J_String_isLatin1_Z 7 = .ok (.getfield 15, 3) := by decide +kernel
theorem d_J_String_isLatin1_Z_10 : decode b_J_String_isLatin1_Z 10 = .ok (.ifCond .ne 7, 3) := by decide +kernel
theorem d_J_String_isLatin1_Z_13 : decode b_J_String_isLatin1_Z 13 = .ok (.iconst 1, 1) := by decide +kernel
theorem d_J_String_isLatin1_Z_14 : decode b_J_String_isLatin1_Z 14 = .ok (.goto 4, 3) := by decide +kernel
theorem d_J_String_isLatin1_Z_17 : decode b_J_String_isLatin1_Z 17 = .ok (.iconst 0, 1) := by decide +kernel
theorem d_J_String_isLatin1_Z_18 : decode b_J_String_isLatin1_Z 18 = .ok (.ireturn, 1) := by decide +kernel
abbrev b_J_String_charAt_IC : ByteArray := prog_22_method_56_code
theorem d_J_String_charAt_IC_0 : decode b_J_String_charAt_IC 0 = .ok (.aload_n 0, 1) := by decide +kernel
theorem d_J_String_charAt_IC_1 : decode b_J_String_charAt_IC 1 = .ok (.invokevirtual 492, 3) := by decide +kernel
theorem d_J_String_charAt_IC_4 : decode b_J_String_charAt_IC 4 = .ok (.ifCond .eq 12, 3) := by decide +kernel
theorem d_J_String_charAt_IC_7 : decode b_J_String_charAt_IC 7 = .ok (.aload_n 0, 1) := by decide +kernel
theorem d_J_String_charAt_IC_8 : decode b_J_String_charAt_IC 8 = .ok (.getfield 9, 3) := by decide +kernel
theorem d_J_String_charAt_IC_11 : decode b_J_String_charAt_IC 11 = .ok (.iload_n 1, 1) := by decide +kernel
theorem d_J_String_charAt_IC_12 : decode b_J_String_charAt_IC 12 = .ok (.invokestatic 495, 3) := by decide +kernel
theorem d_J_String_charAt_IC_15 : decode b_J_String_charAt_IC 15 = .ok (.ireturn, 1) := by decide +kernel
theorem d_J_String_charAt_IC_16 : decode b_J_String_charAt_IC 16 = .ok (.aload_n 0, 1) := by decide +kernel
theorem d_J_String_charAt_IC_17 : decode b_J_String_charAt_IC 17 = .ok (.getfield 9, 3) := by decide +kernel
theorem d_J_String_charAt_IC_20 : decode b_J_String_charAt_IC 20 = .ok (.iload_n 1, 1) := by decide +kernel
theorem d_J_String_charAt_IC_21 : decode b_J_String_charAt_IC 21 = .ok (.invokestatic 498, 3) := by decide +kernel
theorem d_J_String_charAt_IC_24 : decode b_J_String_charAt_IC 24 = .ok (.ireturn, 1) := by decide +kernel
abbrev b_J_StringLatin1_charAt_BIC : ByteArray := prog_23_method_2_code
theorem d_J_StringLatin1_charAt_BIC_0 : decode b_J_StringLatin1_charAt_BIC 0 = .ok (.iload_n 1, 1) := by decide +kernel
theorem d_J_StringLatin1_charAt_BIC_1 : decode b_J_StringLatin1_charAt_BIC 1 = .ok (.aload_n 0, 1) := by decide +kernel
theorem d_J_StringLatin1_charAt_BIC_2 : decode b_J_StringLatin1_charAt_BIC 2 = .ok (.arraylength, 1) := by decide +kernel
theorem d_J_StringLatin1_charAt_BIC_3 : decode b_J_StringLatin1_charAt_BIC 3 = .ok (.invokestatic 9, 3) := by decide +kernel
theorem d_J_StringLatin1_charAt_BIC_6 : decode b_J_StringLatin1_charAt_BIC 6 = .ok (.aload_n 0, 1) := by decide +kernel
theorem d_J_StringLatin1_charAt_BIC_7 : decode b_J_StringLatin1_charAt_BIC 7 = .ok (.iload_n 1, 1) := by decide +kernel
theorem d_J_StringLatin1_charAt_BIC_8 : decode b_J_StringLatin1_charAt_BIC 8 = .ok (.baload, 1) := by decide +kernel
theorem d_J_StringLatin1_charAt_BIC_9 : decode b_J_StringLatin1_charAt_BIC 9 = .ok (.sipush 255, 3) := by decide +kernel
theorem d_J_StringLatin1_charAt_BIC_12 : decode b_J_StringLatin1_charAt_BIC 12 = .ok (.iand, 1) := by decide +kernel
theorem d_J_StringLatin1_charAt_BIC_13 : decode b_J_StringLatin1_charAt_BIC 13 = .ok (.i2c, 1) := by decide +kernel
theorem d_J_StringLatin1_charAt_BIC_14 : decode b_J_StringLatin1_charAt_BIC 14 = .ok (.ireturn, 1) := by decide +kernel
abbrev b_J_String_checkIndex_IIV : ByteArray := prog_22_method_155_code
theorem d_J_String_checkIndex_IIV_0 : decode b_J_String_checkIndex_IIV 0 = .ok (.iload_n 0, 1) := by decide +kernel
theorem d_J_String_checkIndex_IIV_1 : decode b_J_String_checkIndex_IIV 1 = .ok (.iload_n 1, 1) := by decide +kernel
theorem d_J_String_checkIndex_IIV_2 : decode b_J_String_checkIndex_IIV 2 = .ok (.getstatic 1053, 3) := by decide +kernel
theorem d_J_String_checkIndex_IIV_5 : decode b_J_String_checkIndex_IIV 5 = .ok (.invokestatic 1059, 3) := by decide +kernel
theorem d_J_String_checkIndex_IIV_8 : decode b_J_String_checkIndex_IIV 8 = .ok (.pop, 1) := by decide +kernel
theorem d_J_String_checkIndex_IIV_9 : decode b_J_String_checkIndex_IIV 9 = .ok (.return_, 1) := by decide +kernel
abbrev b_J_Preconditions_checkIndex : ByteArray := prog_29_method_11_code
theorem d_J_Preconditions_checkIndex_0 : decode b_J_Preconditions_checkIndex 0 = .ok (.iload_n 0, 1) := by decide +kernel
theorem d_J_Preconditions_checkIndex_1 : decode b_J_Preconditions_checkIndex 1 = .ok (.ifCond .lt 8, 3) := by decide +kernel
theorem d_J_Preconditions_checkIndex_4 : decode b_J_Preconditions_checkIndex 4 = .ok (.iload_n 0, 1) := by decide +kernel
theorem d_J_Preconditions_checkIndex_5 : decode b_J_Preconditions_checkIndex 5 = .ok (.iload_n 1, 1) := by decide +kernel
theorem d_J_Preconditions_checkIndex_6 : decode b_J_Preconditions_checkIndex 6 = .ok (.if_icmp .lt 10, 3) := by decide +kernel
theorem d_J_Preconditions_checkIndex_16 : decode b_J_Preconditions_checkIndex 16 = .ok (.iload_n 0, 1) := by decide +kernel
theorem d_J_Preconditions_checkIndex_17 : decode b_J_Preconditions_checkIndex 17 = .ok (.ireturn, 1) := by decide +kernel
theorem w_874 : (Jvm.Cond.methodLink "java/lang/String" (335 : Nat) ({ cls := "java/lang/String", name := "coder", desc := "()B" } : Jvm.MethodName)) ∈ jw_all := jw_in4 154 rfl rfl
theorem w_875 : (Jvm.Cond.instanceMethod ({ cls := "java/lang/String", name := "coder", desc := "()B" } : Jvm.MethodName)) ∈ jw_all := jw_in4 155 rfl rfl
theorem w_876 : (Jvm.Cond.selects "java/lang/String" ({ cls := "java/lang/String", name := "coder", desc := "()B" } : Jvm.MethodName) ({ cls := "java/lang/String", name := "coder", desc := "()B" } : Jvm.MethodName)) ∈ jw_all := jw_in4 156 rfl rfl
theorem w_877 : (Jvm.Cond.code ({ cls := "java/lang/String", name := "coder", desc := "()B" } : Jvm.MethodName) prog_22_method_152_code (1 : Nat) (Option.some Jvm.ClassFile.FieldType.byte)) ∈ jw_all := jw_in4 157 rfl rfl
theorem w_878 : (Jvm.Cond.fieldLink "java/lang/String" (38 : Nat) "java/lang/String" "COMPACT_STRINGS" "Z") ∈ jw_all := jw_in4 158 rfl rfl
theorem w_884 : (Jvm.Cond.methodLink "java/lang/String" (492 : Nat) ({ cls := "java/lang/String", name := "isLatin1", desc := "()Z" } : Jvm.MethodName)) ∈ jw_all := jw_in4 164 rfl rfl
theorem w_885 : (Jvm.Cond.instanceMethod ({ cls := "java/lang/String", name := "isLatin1", desc := "()Z" } : Jvm.MethodName)) ∈ jw_all := jw_in4 165 rfl rfl
theorem w_886 : (Jvm.Cond.selects "java/lang/String" ({ cls := "java/lang/String", name := "isLatin1", desc := "()Z" } : Jvm.MethodName) ({ cls := "java/lang/String", name := "isLatin1", desc := "()Z" } : Jvm.MethodName)) ∈ jw_all := jw_in4 166 rfl rfl
theorem w_887 : (Jvm.Cond.code ({ cls := "java/lang/String", name := "isLatin1", desc := "()Z" } : Jvm.MethodName) prog_22_method_154_code (1 : Nat) (Option.some Jvm.ClassFile.FieldType.boolean)) ∈ jw_all := jw_in4 167 rfl rfl
theorem w_888 : (Jvm.Cond.methodLink "java/lang/String" (495 : Nat) ({ cls := "java/lang/StringLatin1", name := "charAt", desc := "([BI)C" } : Jvm.MethodName)) ∈ jw_all := jw_in4 168 rfl rfl
theorem w_889 : (Jvm.Cond.static ({ cls := "java/lang/StringLatin1", name := "charAt", desc := "([BI)C" } : Jvm.MethodName)) ∈ jw_all := jw_in4 169 rfl rfl
theorem w_890 : (Jvm.Cond.code ({ cls := "java/lang/StringLatin1", name := "charAt", desc := "([BI)C" } : Jvm.MethodName) prog_23_method_2_code (2 : Nat) (Option.some Jvm.ClassFile.FieldType.char)) ∈ jw_all := jw_in4 170 rfl rfl
theorem w_891 : (Jvm.Cond.methodLink "java/lang/StringLatin1" (9 : Nat) ({ cls := "java/lang/String", name := "checkIndex", desc := "(II)V" } : Jvm.MethodName)) ∈ jw_all := jw_in4 171 rfl rfl
theorem w_892 : (Jvm.Cond.static ({ cls := "java/lang/String", name := "checkIndex", desc := "(II)V" } : Jvm.MethodName)) ∈ jw_all := jw_in4 172 rfl rfl
theorem w_893 : (Jvm.Cond.code ({ cls := "java/lang/String", name := "checkIndex", desc := "(II)V" } : Jvm.MethodName) prog_22_method_155_code (2 : Nat) (Option.none : Option Jvm.ClassFile.FieldType)) ∈ jw_all := jw_in4 173 rfl rfl
theorem w_894 : (Jvm.Cond.fieldLink "java/lang/String" (1053 : Nat) "jdk/internal/util/Preconditions" "SIOOBE_FORMATTER" "Ljava/util/function/BiFunction;") ∈ jw_all := jw_in4 174 rfl rfl
theorem w_896 : (Jvm.Cond.methodLink "java/lang/String" (1059 : Nat) ({ cls := "jdk/internal/util/Preconditions", name := "checkIndex", desc := "(IILjava/util/function/BiFunction;)I" } : Jvm.MethodName)) ∈ jw_all := jw_in4 176 rfl rfl
theorem w_897 : (Jvm.Cond.static ({ cls := "jdk/internal/util/Preconditions", name := "checkIndex", desc := "(IILjava/util/function/BiFunction;)I" } : Jvm.MethodName)) ∈ jw_all := jw_in4 177 rfl rfl
theorem w_898 : (Jvm.Cond.code ({ cls := "jdk/internal/util/Preconditions", name := "checkIndex", desc := "(IILjava/util/function/BiFunction;)I" } : Jvm.MethodName) prog_29_method_11_code (3 : Nat) (Option.some Jvm.ClassFile.FieldType.int)) ∈ jw_all := jw_in4 178 rfl rfl
theorem w_25 : (Jvm.Cond.initialized "java/lang/StringLatin1") ∈ jw_all := jw_in1 25 rfl rfl
theorem w_26 : (Jvm.Cond.initialized "jdk/internal/util/Preconditions") ∈ jw_all := jw_in1 26 rfl rfl
theorem w_1809 : (Jvm.Cond.fieldLink "java/lang/String" (9 : Nat) "java/lang/String" "value" "[B") ∈ jw_all := jw_in8 129 rfl rfl
theorem w_1810 : (Jvm.Cond.fieldLink "java/lang/String" (15 : Nat) "java/lang/String" "coder" "B") ∈ jw_all := jw_in8 130 rfl rfl
theorem m_JS_335 : jm_V "java/lang/String" 335 "java/lang/String" y_J_String_coder_B b_J_String_coder_B 1 (some .byte) 0 := jm_V_of w_874 w_875 w_876 w_24 w_877 (by decide +kernel)
theorem m_JS_492 : jm_V "java/lang/String" 492 "java/lang/String" y_J_String_isLatin1_Z b_J_String_isLatin1_Z 1 (some .boolean) 0 := jm_V_of w_884 w_885 w_886 w_24 w_887 (by decide +kernel)
theorem m_JS_495 : jm_S "java/lang/String" 495 y_J_StringLatin1_charAt_BIC b_J_StringLatin1_charAt_BIC 2 (some .char) 2 := jm_S_of w_888 w_889 w_25 w_890 (by decide +kernel)
theorem m_JL_9 : jm_S "java/lang/StringLatin1" 9 y_J_String_checkIndex_IIV b_J_String_checkIndex_IIV 2 none 2 := jm_S_of w_891 w_892 w_24 w_893 (by decide +kernel)
theorem m_JS_1059 : jm_S "java/lang/String" 1059 y_J_Preconditions_checkIndex b_J_Preconditions_checkIndex 3 (some .int) 3 := jm_S_of w_896 w_897 w_26 w_898 (by decide +kernel)
/-- a contract that may use what never changes, and makes nothing but its room -/
def jcI_C (l : Launch) (D : jd_T) (y : MethodName) (cc : ByteArray) (nL : Nat) (ret : Option FieldType) (rm : Room) (av : List Value) (L : List sg_A) {α : Type} (E : je_T α) : Prop :=
  ∀ (h0 : sg_F) (sz : Nat), sg_l L h0 → MetFree l y (headSpec (jc_ws y cc nL ret) rm) (jgI_P D av h0 sz) (fun _ _ _ _ _ => True) (fun _ st o t => jc_End E h0 sz st o t ∧ jc_Fr st t (jc_A h0 sz) rm.cells rm.slots)
theorem jcI_of {l : Launch} {D : jd_T} {y : MethodName} {cc : ByteArray} {nL : Nat} {ret : Option FieldType} {rm : Room} {av : List Value} {L : List sg_A} {α : Type} {E : je_T α} (hy : plainName y.cls = true) (hn : (lg_sl av).length ≤ nL)
    (body : ∀ X : jx_T, jx_l X = l → jx_R X = rm → jx_n X = nL → jx_ok X D cc y.cls ret → jI D (jx_A X) (jx_s X) (jx_s X).heap → ((jx_t X).name = y.name) → jx_fin X rm.cells rm.slots E → jw X 0 0 L (lv_args 0 av) 0 []) : jcI_C l D y cc nL ret rm av L E := by
  intro h0 sz hL
  refine MetFree.of_bodyS (code := cc) (maxLocals := nL) (ret := ret) hy ?_ ?_
  · intro args s m h hnm
    obtain ⟨meth, c, h1, h2, h3, h4, h5, h6, -, -⟩ := Cond.code_spec hnm (atoms_spec (ws := jc_ws y cc nL ret) h _ List.mem_cons_self)
    exact ⟨meth, c, h1, h2, h3, h4, h5, h6⟩
  · intro p e s m args below meth c s₁ B hml hP _
    obtain ⟨⟨ha, hsz, hin, hK⟩, hI⟩ := hP
    subst ha
    subst hsz
    have hh0 : s₁.heap = s.heap := by rw [B.state]; rfl
    have hts := atoms_spec (ws := jc_ws y cc nL ret) B.pre
    have key := body (p, l, e, rm, s, m, av.toArray, below, meth, c, jc_A h0 s.heap.size, (fun t => ∃ o, t.status = .running ∧ Ended t below o ∧ jc_End E h0 s.heap.size s o t ∧ jc_Fr s t (jc_A h0 s.heap.size) rm.cells rm.slots), nL) rfl rfl rfl
      ⟨B.exec, B.bytes, hml, findClass_of_methodNamed B.named, fun w hw => hts w (List.mem_cons_of_mem _ hw), B.returns, B.notSynchronized, hK, fun q hq => Or.inr hq⟩ hI (name_of_methodNamed B.named B.method).1
      (fun u h o t h1 h2 h3 h4 h5 h6 h7 h8 h9 => ⟨o, h7, h8, ⟨u, h, h1, h2, h3, h4, h5, h6⟩, h9⟩)
      h0 s.heap [] ((lg_sl av ++ List.replicate (nL - (lg_sl av).length) Slot.unset).toArray) hL hin (fun q c hq => Or.inl (by rw [hq]; exact fun z => by cases z)) va_S.rf (lv_entry av hn)
    have key2 : W p l e rm s m av.toArray below meth c s.heap [] 0 0 (fun t => ∃ o, t.status = .running ∧ Ended t below o ∧ jc_End E h0 s.heap.size s o t ∧ jc_Fr s t (jc_A h0 s.heap.size) rm.cells rm.slots) (entryFrame m av.toArray nL) := by
      rw [lg_entry_eq]
      exact key
    obtain ⟨t, a1, o, b1, b2, b3⟩ := key2 s₁ hh0 (Stand.of_body B)
    exact ⟨t, o, a1, b1, b2, b3⟩
theorem jcI_met {l : Launch} {D : jd_T} {y : MethodName} {cc : ByteArray} {nL : Nat} {ret : Option FieldType} {rm : Room} {av : List Value} {L : List sg_A} {α : Type} {E : je_T α} (hM : jcI_C l D y cc nL ret rm av L E) (hE : ∀ u : α, ∃ v, (E u).1 = .returned v) (h0 : sg_F) (sz : Nat) (hL : sg_l L h0) :
    Met l y (jc_ws y cc nL ret) rm (jgI_P D av h0 sz) (fun _ st o t => jc_End E h0 sz st o t) rm.cells rm.slots (jc_A h0 sz) := by
  intro p e h1 h2 h3 s m args below h4 h5 h6 h7
  obtain ⟨n, o, a1, a2, a3, ⟨u, h, b1, b2⟩, Lx, c1, c2, c3⟩ := hM h0 sz hL p e h1 h2 h3 s m args below h4 h5 h6 h7
  obtain ⟨v, hv⟩ := hE u
  exact ⟨n, o, a1, a2, a3, ⟨u, h, b1, b2⟩, Lx, ⟨⟨v, b1.trans hv⟩, c1, c2⟩, c3⟩
section JSTR
variable {X : jx_T} {D : jd_T} {cc : ByteArray} {own : String} {ret : Option FieldType} {cs sl : Nat} {L : List sg_A} {lv : List (Nat × Value)} {pc : Nat} {st : List Value} {RM : Room}
theorem jI_A {h : sg_F} {H : Heap} {locs : List Loc} (ok : jx_ok X D cc own ret) (h3 : ∀ (q : Nat) (c : Cell), h q = some c → jx_A X q) (h4 : va_S (jx_A X) (jx_s X).heap H locs) : ∀ q, jc_A h H.size q → jx_A X q := fun q hq => by
  rcases hq with z | z
  · cases hfq : h q with
    | none => exact absurd hfq z
    | some c => exact h3 q c hfq
  · exact ok.2.2.2.2.2.2.2.2 q (Nat.le_trans h4.1 z)
/-- a call of a string constant's method -/
theorem jcI_callV {i index n fr lo : Nat} {y : MethodName} {bytes : ByteArray} {maxL : Nat} {rt : Option FieldType} {As rest : List Value} {v : Option Value} (ok : jx_ok X D cc own ret) (hI : jI D (jx_A X) (jx_s X) (jx_s X).heap) (hi : i < 8) (hRM : jx_R X = RM) (hg : jm_V own index "java/lang/String" y bytes maxL rt n) (hM : jcI_C (jx_l X) D y bytes maxL rt { frames := fr, cells := 0, slots := 0, locals := lo } (.ref (D.1.2 100 i) :: As) L (fun _ : Unit => (.returned v, True, L)))
    (hst : st = As.reverse ++ .ref (D.1.2 100 i) :: rest) (hn : As.length = n) (hw : (rest.map fun v => v.category).sum ≤ 8) (hF : fr + 1 ≤ RM.frames ∧ 8 + (maxL + 11) + lo ≤ RM.locals) (hf : cs ≤ RM.cells ∧ sl ≤ RM.slots) (d : decode cc pc = .ok (.invokevirtual index, 3))
    (kk : jw X cs sl L lv (pc + 3) (v.toList ++ rest)) : jw X cs sl L lv pc st := by
  subst hRM
  intro h H locs ls h1 h2 h3 h4 h5
  have hMet := jcI_met hM (fun _ => ⟨v, rfl⟩) h H.size h1
  subst hst
  refine jr_run (f := h) (g := sg_0) (Lr := []) (v := fun _ => v) ok.2.2.2.2.2.2.2.2 (fun _ => rfl) (va_runV (As := As) (rest := rest) ⟨ok.1, ok.2.1, ok.2.2.1, ok.2.2.2.1, ok.2.2.2.2.1⟩ hMet (cwV n ok.2.2.2.2.1 hg.1 rfl rfl rfl hg.2 hF) ⟨jgI_Pblind, vk_recv hI.2.2.2.1 hi h4, fun U hU hW => ⟨⟨rfl, by rw [hU], by rw [hU]; exact h2, jk_K.moved hW.alike ok.2.2.2.2.2.2.2.1⟩, jI.go hI hW (fun a x y => by rw [hU]; exact h4.2.1 a x y) (jI_A ok h3 h4)⟩⟩ rfl hn h5.1 rfl (lv_room hw) d hf) (sg_dj_0 h) rfl (by rw [sg_un_0]; exact h2) (by rw [sg_un_0]; exact h3) h4 h5 (fun _ _ => by rw [List.append_nil]; exact kk)
theorem jcI_callS {index n fr lo : Nat} {y : MethodName} {bytes : ByteArray} {maxL : Nat} {rt : Option FieldType} {As rest : List Value} {v : Option Value} (ok : jx_ok X D cc own ret) (hI : jI D (jx_A X) (jx_s X) (jx_s X).heap) (hRM : jx_R X = RM) (hg : jm_S own index y bytes maxL rt n) (hM : jcI_C (jx_l X) D y bytes maxL rt { frames := fr, cells := 0, slots := 0, locals := lo } As L (fun _ : Unit => (.returned v, True, L)))
    (hst : st = As.reverse ++ rest) (hn : As.length = n) (hw : (rest.map fun v => v.category).sum ≤ 8) (hF : fr + 1 ≤ RM.frames ∧ 8 + (maxL + 11) + lo ≤ RM.locals) (hf : cs ≤ RM.cells ∧ sl ≤ RM.slots) (d : decode cc pc = .ok (.invokestatic index, 3))
    (kk : jw X cs sl L lv (pc + 3) (v.toList ++ rest)) : jw X cs sl L lv pc st := by
  subst hRM
  intro h H locs ls h1 h2 h3 h4 h5
  have hMet := jcI_met hM (fun _ => ⟨v, rfl⟩) h H.size h1
  subst hst
  refine jr_run (f := h) (g := sg_0) (Lr := []) (v := fun _ => v) ok.2.2.2.2.2.2.2.2 (fun _ => rfl) (va_runS (As := As) (rest := rest) ⟨ok.1, ok.2.1, ok.2.2.1, ok.2.2.2.1, ok.2.2.2.2.1⟩ hMet (va_cwS n ok.2.2.2.2.1 hg.1 rfl rfl rfl hg.2 hF) ⟨jgI_Pblind, fun U hU hW => ⟨⟨rfl, by rw [hU], by rw [hU]; exact h2, jk_K.moved hW.alike ok.2.2.2.2.2.2.2.1⟩, jI.go hI hW (fun a x y => by rw [hU]; exact h4.2.1 a x y) (jI_A ok h3 h4)⟩⟩ rfl hn h5.1 rfl (lv_room hw) d hf) (sg_dj_0 h) rfl (by rw [sg_un_0]; exact h2) (by rw [sg_un_0]; exact h3) h4 h5 (fun _ _ => by rw [List.append_nil]; exact kk)
/-- a string's length and bytes, as whole numbers -/
def sLen (i : Nat) : Int := ((jS_len.getD i 0 : Nat) : Int)
def sCh (i : Nat) (j : Int) : Int := ((jS_byt.getD i []).getD j.toNat 0).toInt
theorem sLen_R : ∀ i, i < 8 → 0 ≤ sLen i ∧ sLen i ≤ 6 := by decide +kernel
theorem sCh_and : ∀ i, i < 8 → ∀ j, j < 6 → ((((jS_byt.getD i []).getD j 0) &&& ii 255).toUInt32 % 65536).toInt32 = (jS_byt.getD i []).getD j 0 := by decide +kernel
theorem sCh_char : ∀ i, i < 8 → ∀ j, j < 6 → narrow .char (.int ((jS_byt.getD i []).getD j 0)) = .int ((jS_byt.getD i []).getD j 0) := by decide +kernel
theorem jrI_comp {index : Nat} (ok : jx_ok X D cc own ret) (hI : jI D (jx_A X) (jx_s X) (jx_s X).heap) (hl : Cond.fieldLink own index "java/lang/String" "COMPACT_STRINGS" "Z" ∈ jw_all) (d : decode cc pc = .ok (.getstatic index, 3))
    (k : jw X cs sl L lv (pc + 3) (.int (ii 1) :: st)) : jw X cs sl L lv pc st := by
  intro h H locs ls h1 h2 h3 h4 h5
  rw [ii_1] at k
  exact va_gets ok.1 ok.2.1 hI.2.2.1 h4 ok.2.2.2.1 (ok.2.2.2.2.1 _ hl) (fun x hx => hx) d (k h H locs ls h1 h2 h3 h4 h5)
theorem jrI_sio {index : Nat} (ok : jx_ok X D cc own ret) (hI : jI D (jx_A X) (jx_s X) (jx_s X).heap) (hl : Cond.fieldLink own index "jdk/internal/util/Preconditions" "SIOOBE_FORMATTER" "Ljava/util/function/BiFunction;" ∈ jw_all) (d : decode cc pc = .ok (.getstatic index, 3))
    (k : ∀ v : Value, v.category = 1 → jw X cs sl L lv (pc + 3) (v :: st)) : jw X cs sl L lv pc st := by
  intro h H locs ls h1 h2 h3 h4 h5
  rcases hI.2.2.2.2.2 with z | ⟨t, z⟩
  · exact va_gets ok.1 ok.2.1 z h4 ok.2.2.2.1 (ok.2.2.2.2.1 _ hl) (fun x hx => hx) d (k .null rfl h H locs ls h1 h2 h3 h4 h5)
  · exact va_gets ok.1 ok.2.1 z h4 ok.2.2.2.1 (ok.2.2.2.2.1 _ hl) (fun x hx => hx) d (k (.ref t) rfl h H locs ls h1 h2 h3 h4 h5)
theorem jrI_sval {i index : Nat} (ok : jx_ok X D cc own ret) (hI : jI D (jx_A X) (jx_s X) (jx_s X).heap) (hi : i < 8) (hl : Cond.fieldLink own index "java/lang/String" "value" "[B" ∈ jw_all) (d : decode cc pc = .ok (.getfield index, 3))
    (k : jw X cs sl L lv (pc + 3) (.ref (D.1.2 101 i) :: st)) : jw X cs sl L lv pc (.ref (D.1.2 100 i) :: st) := by
  intro h H locs ls h1 h2 h3 h4 h5
  exact vk_getf ok.1 ok.2.1 (hI.2.2.2.1.1 i hi).2.2.1 h4 ok.2.2.2.1 (ok.2.2.2.2.1 _ hl) (fun x hx => hx) d (k h H locs ls h1 h2 h3 h4 h5)
theorem jrI_scod {i index : Nat} (ok : jx_ok X D cc own ret) (hI : jI D (jx_A X) (jx_s X) (jx_s X).heap) (hi : i < 8) (hl : Cond.fieldLink own index "java/lang/String" "coder" "B" ∈ jw_all) (d : decode cc pc = .ok (.getfield index, 3))
    (k : jw X cs sl L lv (pc + 3) (.int (ii 0) :: st)) : jw X cs sl L lv pc (.ref (D.1.2 100 i) :: st) := by
  intro h H locs ls h1 h2 h3 h4 h5
  rw [ii_0] at k
  exact vk_getf ok.1 ok.2.1 (hI.2.2.2.1.1 i hi).2.1 h4 ok.2.2.2.1 (ok.2.2.2.2.1 _ hl) (fun x hx => hx) d (k h H locs ls h1 h2 h3 h4 h5)
theorem jrI_slen {i : Nat} (ok : jx_ok X D cc own ret) (hI : jI D (jx_A X) (jx_s X) (jx_s X).heap) (hi : i < 8) (d : decode cc pc = .ok (.arraylength, 1))
    (k : jw X cs sl L lv (pc + 1) (.int (ii (sLen i)) :: st)) : jw X cs sl L lv pc (.ref (D.1.2 101 i) :: st) := by
  intro h H locs ls h1 h2 h3 h4 h5
  exact va_tlen ok.1 ok.2.1 (hI.2.2.2.1.1 i hi).2.2.2 h4 (v := ii (sLen i)) (Int32.ofInt_eq_ofNat.symm) d (k h H locs ls h1 h2 h3 h4 h5)
theorem jrI_sat {i : Nat} {j : Int} (ok : jx_ok X D cc own ret) (hI : jI D (jx_A X) (jx_s X) (jx_s X).heap) (hi : i < 8) (h0 : 0 ≤ j) (hj : j < sLen i) (d : decode cc pc = .ok (.baload, 1))
    (k : jw X cs sl L lv (pc + 1) (.int (ii (sCh i j)) :: st)) : jw X cs sl L lv pc (.int (ii j) :: .ref (D.1.2 101 i) :: st) := by
  intro h H locs ls h1 h2 h3 h4 h5
  have hR := sLen_R i hi
  have hin : vp_in (ii j) (jS_len.getD i 0) := by have := ii_in h0 hj (by omega); unfold sLen at this; rw [Int.toNat_natCast] at this; exact this
  refine va_tb ok.1 ok.2.1 (hI.2.2.2.1.1 i hi).2.2.2 h4 hin (v := .int (ii (sCh i j))) ?_ d (k h H locs ls h1 h2 h3 h4 h5)
  rw [ii_clamp ⟨by omega, by omega⟩]
  unfold sCh
  rw [ii_of]
theorem jr_tret {mc ms : Nat} {α : Type} {E : je_T α} {z : Int} {ty : FieldType} (ok : jx_ok X D cc own (some ty)) (hz : narrow ty (.int (ii z)) = .int (ii z)) (fin : jx_fin X mc ms E) (hcs : cs ≤ mc) (hsl : sl ≤ ms) (u : α) (ho : (E u).1 = .returned (some (.int (ii z)))) (hφ : (E u).2.1) (he : ∀ h, sg_l L h → sg_l (E u).2.2 h) (d : decode cc pc = .ok (.ireturn, 1)) : jw X cs sl L lv pc [.int (ii z)] := by
  intro h H locs ls h1 h2 h3 h4 h5
  refine jr_mono (W.zret (Qc := fun _ _ o' t' => o' = .returned (some (.int (ii z))) ∧ t'.heap = H) (free := jx_A X) ok.1 ok.2.1 ok.2.2.2.2.2.1 hz (fun t ht _ => ⟨rfl, ht⟩) h4.2.2 d ok.2.2.2.2.2.2.1) (fun t hm => ?_)
  exact jr_end fin hcs hsl u ho.symm hφ (he h h1) h2 h3 h4 hm
theorem jr_i2c {a z : Int} (ok : jx_ok X D cc own ret) (d : decode cc pc = .ok (.i2c, 1)) (hz : ((ii a).toUInt32 % 65536).toInt32 = ii z)
    (k : jw X cs sl L lv (pc + 1) (.int (ii z) :: st)) : jw X cs sl L lv pc (.int (ii a) :: st) := by
  intro h H locs ls h1 h2 h3 h4 h5
  exact lv_i2c ok.1 ok.2.1 d hz (k h H locs ls h1 h2 h3 h4 h5)
end JSTR
set_option maxRecDepth 100000 in
theorem c_Scoder (l : Launch) (D : jd_T) (L : List sg_A) (i : Nat) (hi : i < 8) : jcI_C l D y_J_String_coder_B b_J_String_coder_B 1 (some .byte) { frames := 0, cells := 0, slots := 0, locals := 0 } [.ref (D.1.2 100 i)] L (fun _ : Unit => (.returned (some (.int (ii 0))), True, L)) := by
  refine jcI_of rfl (Nat.le_of_ble_eq_true rfl) ?_
  intro X hl hR hN ok hI hnm fin
  show jw X 0 0 L [(0, .ref (D.1.2 100 i))] 0 []
  refine jrI_comp ok hI w_878 d_J_String_coder_B_0 ?_
  refine jr_wif_eq 13 ok (show w32 1 = 1 by decide) d_J_String_coder_B_3 (by decide) (fun z => absurd z (by decide)) (fun _ => ?_)
  refine jr_aload_n ok 0 d_J_String_coder_B_6 rfl rfl ?_
  refine jrI_scod ok hI hi w_1810 d_J_String_coder_B_7 ?_
  refine jr_goto 14 ok d_J_String_coder_B_10 (by decide) ?_
  exact jr_tret ok (by decide +kernel) fin (Nat.zero_le _) (Nat.zero_le _) () rfl trivial sg_same d_J_String_coder_B_14
set_option maxRecDepth 100000 in
theorem c_Slat (l : Launch) (D : jd_T) (L : List sg_A) (i : Nat) (hi : i < 8) : jcI_C l D y_J_String_isLatin1_Z b_J_String_isLatin1_Z 1 (some .boolean) { frames := 0, cells := 0, slots := 0, locals := 0 } [.ref (D.1.2 100 i)] L (fun _ : Unit => (.returned (some (.int (ii 1))), True, L)) := by
  refine jcI_of rfl (Nat.le_of_ble_eq_true rfl) ?_
  intro X hl hR hN ok hI hnm fin
  show jw X 0 0 L [(0, .ref (D.1.2 100 i))] 0 []
  refine jrI_comp ok hI w_878 d_J_String_isLatin1_Z_0 ?_
  refine jr_wif_eq 17 ok (show w32 1 = 1 by decide) d_J_String_isLatin1_Z_3 (by decide) (fun z => absurd z (by decide)) (fun _ => ?_)
  refine jr_aload_n ok 0 d_J_String_isLatin1_Z_6 rfl rfl ?_
  refine jrI_scod ok hI hi w_1810 d_J_String_isLatin1_Z_7 ?_
  refine jr_wif_ne 17 ok (show w32 0 = 0 by decide) d_J_String_isLatin1_Z_10 (by decide) (fun z => absurd rfl z) (fun _ => ?_)
  refine jr_iconst ok d_J_String_isLatin1_Z_13 ?_
  refine jr_goto 18 ok d_J_String_isLatin1_Z_14 (by decide) ?_
  exact jr_tret ok (by decide +kernel) fin (Nat.zero_le _) (Nat.zero_le _) () rfl trivial sg_same d_J_String_isLatin1_Z_18
set_option maxRecDepth 100000 in
theorem c_Slength (l : Launch) (D : jd_T) (L : List sg_A) (i : Nat) (hi : i < 8) : jcI_C l D y_J_String_length_I b_J_String_length_I 1 (some .int) { frames := 1, cells := 0, slots := 0, locals := 20 } [.ref (D.1.2 100 i)] L (fun _ : Unit => (.returned (some (.int (ii (sLen i)))), True, L)) := by
  refine jcI_of rfl (Nat.le_of_ble_eq_true rfl) ?_
  intro X hl hR hN ok hI hnm fin
  subst hl
  show jw X 0 0 L [(0, .ref (D.1.2 100 i))] 0 []
  refine jr_aload_n ok 0 d_J_String_length_I_0 rfl rfl ?_
  refine jrI_sval ok hI hi w_1809 d_J_String_length_I_1 ?_
  refine jrI_slen ok hI hi d_J_String_length_I_4 ?_
  refine jr_aload_n ok 0 d_J_String_length_I_5 rfl rfl ?_
  refine jcI_callV (v := some (.int (ii 0))) ok hI hi hR m_JS_335 (c_Scoder (jx_l X) D L i hi) rfl rfl (Nat.le_of_ble_eq_true rfl) ⟨Nat.le_of_ble_eq_true rfl, Nat.le_of_ble_eq_true rfl⟩ ⟨Nat.zero_le _, Nat.zero_le _⟩ d_J_String_length_I_6 ?_
  refine jr_ishr (z := sLen i) ok d_J_String_length_I_9 (by have : ∀ i, i < 8 → ii (sLen i) >>> (ii 0 &&& 31) = ii (sLen i) := by decide +kernel
                                                            exact this i hi) ?_
  exact jr_iret ok fin (Nat.zero_le _) (Nat.zero_le _) () rfl trivial sg_same d_J_String_length_I_10
set_option maxRecDepth 100000 in
theorem c_Pre (l : Launch) (D : jd_T) (j n : Int) (v : Value) (hv : v.category = 1) (h0 : 0 ≤ j) (h1 : j < n) (hn : n ≤ 100) : jc_C l D y_J_Preconditions_checkIndex b_J_Preconditions_checkIndex 3 (some .int) { frames := 0, cells := 0, slots := 0, locals := 0 } [.int (ii j), .int (ii n), v] [] (fun _ : Unit => (.returned (some (.int (ii j))), True, [])) := by
  refine jc_of rfl (by cases v <;> first | exact Nat.le_of_ble_eq_true rfl | exact absurd hv (by simp [Value.category])) ?_
  intro X hl hR hN ok hnm fin
  show jw X 0 0 [] (lv_args 0 [.int (ii j), .int (ii n), v]) 0 []
  refine jr_iload_n ok 0 d_J_Preconditions_checkIndex_0 rfl rfl ?_
  refine jr_if_lt 9 ok ⟨by omega, by omega⟩ d_J_Preconditions_checkIndex_1 (by decide) (fun z => by omega) (fun _ => ?_)
  refine jr_iload_n ok 0 d_J_Preconditions_checkIndex_4 rfl rfl ?_
  refine jr_iload_n ok 1 d_J_Preconditions_checkIndex_5 rfl rfl ?_
  refine jr_icmp_lt 16 ok ⟨by omega, by omega⟩ ⟨by omega, by omega⟩ d_J_Preconditions_checkIndex_6 (by decide) (fun _ => ?_) (fun z => by omega)
  refine jr_iload_n ok 0 d_J_Preconditions_checkIndex_16 rfl rfl ?_
  exact jr_iret ok fin (Nat.zero_le _) (Nat.zero_le _) () rfl trivial sg_same d_J_Preconditions_checkIndex_17
set_option maxRecDepth 100000 in
theorem c_Schk (l : Launch) (D : jd_T) (L : List sg_A) (j n : Int) (h0 : 0 ≤ j) (h1 : j < n) (hn : n ≤ 100) : jcI_C l D y_J_String_checkIndex_IIV b_J_String_checkIndex_IIV 2 none { frames := 1, cells := 0, slots := 0, locals := 22 } [.int (ii j), .int (ii n)] L (fun _ : Unit => (.returned none, True, L)) := by
  refine jcI_of rfl (Nat.le_of_ble_eq_true rfl) ?_
  intro X hl hR hN ok hI hnm fin
  subst hl
  show jw X 0 0 L [(0, .int (ii j)), (1, .int (ii n))] 0 []
  refine jr_iload_n ok 0 d_J_String_checkIndex_IIV_0 rfl rfl ?_
  refine jr_iload_n ok 1 d_J_String_checkIndex_IIV_1 rfl rfl ?_
  refine jrI_sio ok hI w_894 d_J_String_checkIndex_IIV_2 (fun v hv => ?_)
  refine jr_mS1 ok hR m_JS_1059 (c_Pre (jx_l X) D j n v hv h0 h1 hn) rfl rfl (Nat.le_of_ble_eq_true rfl) ⟨Nat.le_of_ble_eq_true rfl, Nat.le_of_ble_eq_true rfl⟩ ⟨Nat.zero_le _, Nat.zero_le _⟩ d_J_String_checkIndex_IIV_5 ?_
  refine jr_pop rfl ok d_J_String_checkIndex_IIV_8 ?_
  exact jr_vret ok fin (Nat.zero_le _) (Nat.zero_le _) () rfl trivial sg_same d_J_String_checkIndex_IIV_9
set_option maxRecDepth 100000 in
theorem c_L1char (l : Launch) (D : jd_T) (L : List sg_A) (i : Nat) (j : Int) (hi : i < 8) (h0 : 0 ≤ j) (h1 : j < sLen i) : jcI_C l D y_J_StringLatin1_charAt_BIC b_J_StringLatin1_charAt_BIC 2 (some .char) { frames := 2, cells := 0, slots := 0, locals := 43 } [.ref (D.1.2 101 i), .int (ii j)] L (fun _ : Unit => (.returned (some (.int (ii (sCh i j)))), True, L)) := by
  have hR6 := sLen_R i hi
  refine jcI_of rfl (Nat.le_of_ble_eq_true rfl) ?_
  intro X hl hR hN ok hI hnm fin
  subst hl
  show jw X 0 0 L [(0, .ref (D.1.2 101 i)), (1, .int (ii j))] 0 []
  refine jr_iload_n ok 1 d_J_StringLatin1_charAt_BIC_0 rfl rfl ?_
  refine jr_aload_n ok 0 d_J_StringLatin1_charAt_BIC_1 rfl rfl ?_
  refine jrI_slen ok hI hi d_J_StringLatin1_charAt_BIC_2 ?_
  refine jcI_callS (v := none) ok hI hR m_JL_9 (c_Schk (jx_l X) D L j (sLen i) h0 h1 (by omega)) rfl rfl (Nat.le_of_ble_eq_true rfl) ⟨Nat.le_of_ble_eq_true rfl, Nat.le_of_ble_eq_true rfl⟩ ⟨Nat.zero_le _, Nat.zero_le _⟩ d_J_StringLatin1_charAt_BIC_3 ?_
  refine jr_aload_n ok 0 d_J_StringLatin1_charAt_BIC_6 rfl rfl ?_
  refine jr_iload_n ok 1 d_J_StringLatin1_charAt_BIC_7 rfl rfl ?_
  refine jrI_sat ok hI hi h0 h1 d_J_StringLatin1_charAt_BIC_8 ?_
  refine jr_sipush ok d_J_StringLatin1_charAt_BIC_9 (by decide +kernel) ?_
  refine jr_iand (z := gAnd (sCh i j) 255) ok d_J_StringLatin1_charAt_BIC_12 (ii_of _).symm ?_
  refine jr_i2c (z := sCh i j) ok d_J_StringLatin1_charAt_BIC_13 (by
    unfold gAnd sCh
    rw [ii_of, ii_of]
    exact sCh_and i hi j.toNat (by omega)) ?_
  exact jr_tret ok (by unfold sCh; rw [ii_of]; exact sCh_char i hi j.toNat (by omega)) fin (Nat.zero_le _) (Nat.zero_le _) () rfl trivial sg_same d_J_StringLatin1_charAt_BIC_14
set_option maxRecDepth 100000 in
theorem c_ScharAt (l : Launch) (D : jd_T) (L : List sg_A) (i : Nat) (j : Int) (hi : i < 8) (h0 : 0 ≤ j) (h1 : j < sLen i) : jcI_C l D y_J_String_charAt_IC b_J_String_charAt_IC 2 (some .char) { frames := 3, cells := 0, slots := 0, locals := 64 } [.ref (D.1.2 100 i), .int (ii j)] L (fun _ : Unit => (.returned (some (.int (ii (sCh i j)))), True, L)) := by
  have hR6 := sLen_R i hi
  refine jcI_of rfl (Nat.le_of_ble_eq_true rfl) ?_
  intro X hl hR hN ok hI hnm fin
  subst hl
  show jw X 0 0 L [(0, .ref (D.1.2 100 i)), (1, .int (ii j))] 0 []
  refine jr_aload_n ok 0 d_J_String_charAt_IC_0 rfl rfl ?_
  refine jcI_callV (v := some (.int (ii 1))) ok hI hi hR m_JS_492 (c_Slat (jx_l X) D L i hi) rfl rfl (Nat.le_of_ble_eq_true rfl) ⟨Nat.le_of_ble_eq_true rfl, Nat.le_of_ble_eq_true rfl⟩ ⟨Nat.zero_le _, Nat.zero_le _⟩ d_J_String_charAt_IC_1 ?_
  refine jr_wif_eq 16 ok (show w32 1 = 1 by decide) d_J_String_charAt_IC_4 (by decide) (fun z => absurd z (by decide)) (fun _ => ?_)
  refine jr_aload_n ok 0 d_J_String_charAt_IC_7 rfl rfl ?_
  refine jrI_sval ok hI hi w_1809 d_J_String_charAt_IC_8 ?_
  refine jr_iload_n ok 1 d_J_String_charAt_IC_11 rfl rfl ?_
  refine jcI_callS (v := some (.int (ii (sCh i j)))) ok hI hR m_JS_495 (c_L1char (jx_l X) D L i j hi h0 h1) rfl rfl (Nat.le_of_ble_eq_true rfl) ⟨Nat.le_of_ble_eq_true rfl, Nat.le_of_ble_eq_true rfl⟩ ⟨Nat.zero_le _, Nat.zero_le _⟩ d_J_String_charAt_IC_12 ?_
  exact jr_tret ok (by unfold sCh; rw [ii_of]; exact sCh_char i hi j.toNat (by omega)) fin (Nat.zero_le _) (Nat.zero_le _) () rfl trivial sg_same d_J_String_charAt_IC_15
section JSTR2
variable {X : jx_T} {D : jd_T} {cc : ByteArray} {own : String} {ret : Option FieldType} {cs sl : Nat} {L : List sg_A} {lv : List (Nat × Value)} {pc : Nat} {st rest : List Value} {RM : Room}
theorem jq_strlen {i index : Nat} (ok : jx_ok X D cc own ret) (hI : jI D (jx_A X) (jx_s X) (jx_s X).heap) (hR : jx_R X = RM) (hg : jm_V own index "java/lang/String" y_J_String_length_I b_J_String_length_I 1 (some .int) 0) (hi : i < 8) (hw : (st.map fun v => v.category).sum ≤ 8) (hF : 2 ≤ RM.frames ∧ 60 ≤ RM.locals) (hf : cs ≤ RM.cells ∧ sl ≤ RM.slots) (d : decode cc pc = .ok (.invokevirtual index, 3))
    (kk : jw X cs sl L lv (pc + 3) (.int (ii (sLen i)) :: st)) : jw X cs sl L lv pc (.ref (D.1.2 100 i) :: st) :=
  jcI_callV (v := some (.int (ii (sLen i)))) ok hI hi hR hg (c_Slength (jx_l X) D L i hi) rfl rfl hw ⟨by omega, by omega⟩ hf d kk
theorem jq_strat {i index : Nat} {j : Int} (ok : jx_ok X D cc own ret) (hI : jI D (jx_A X) (jx_s X) (jx_s X).heap) (hR : jx_R X = RM) (hg : jm_V own index "java/lang/String" y_J_String_charAt_IC b_J_String_charAt_IC 2 (some .char) 1) (hi : i < 8) (h0 : 0 ≤ j) (h1 : j < sLen i) (hw : (st.map fun v => v.category).sum ≤ 8) (hF : 4 ≤ RM.frames ∧ 100 ≤ RM.locals) (hf : cs ≤ RM.cells ∧ sl ≤ RM.slots) (d : decode cc pc = .ok (.invokevirtual index, 3))
    (kk : jw X cs sl L lv (pc + 3) (.int (ii (sCh i j)) :: st)) : jw X cs sl L lv pc (.int (ii j) :: .ref (D.1.2 100 i) :: st) :=
  jcI_callV (v := some (.int (ii (sCh i j)))) ok hI hi hR hg (c_ScharAt (jx_l X) D L i j hi h0 h1) rfl rfl hw ⟨by omega, by omega⟩ hf d kk
end JSTR2

