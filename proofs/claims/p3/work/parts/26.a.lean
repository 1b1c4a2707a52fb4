/-! METHODS: what the words say of each method that is called. -/
noncomputable def z_P0 : y_P := z_P 0 (fun _ => 0)
def z_clsG (C : String) : Prop := plainName C = true ∧ C ≠ "java/lang/invoke/MethodHandle" ∧ C ≠ "java/lang/invoke/VarHandle"
def z_dscG (d : String) (n : Nat) : Prop := ∀ sig, parseMethodDescriptor d = some sig → n = sig.parameters.length
theorem z_dscI {d : String} {n : Nat} (h : (match parseMethodDescriptor d with
  | some sig => Nat.beq n sig.parameters.length
  | none => true) = true) : z_dscG d n := fun sig hs => by
  rw [hs] at h
  exact Nat.eq_of_beq_eq_true h
def z_mPr (kind cm k ci : Nat) : Prop := (∃ w, z_tb w = some (y_w0 z_P0 z_nm z_cd z_hh cm)) ∧ (∃ w, z_tb w = some (.initialized (z_nm cm).cls)) ∧ z_clsG (z_nm cm).cls ∧ (z_met cm).1 ≤ 45 ∧
  ((kind = 0 ∧ (∃ w, z_tb w = some (.instanceMethod (z_nm cm))) ∧ (∃ n, k = n + 1 ∧ z_dscG (z_nm cm).desc n) ∧ ∃ C T N w, z_cl[ci]? = some (C, T, N) ∧ z_tb w = some (.selects C (z_nm cm) (z_nm cm))) ∨
   (kind = 4 ∧ (∃ w, z_tb w = some (.instanceMethod (z_nm cm))) ∧ (∃ n, k = n + 1 ∧ z_dscG (z_nm cm).desc n) ∧ ci = 100 ∧ ∃ w, z_tb w = some (.selects "java/lang/String" (z_nm cm) (z_nm cm))) ∨
   (kind = 1 ∧ (∃ w, z_tb w = some (.static (z_nm cm))) ∧ z_dscG (z_nm cm).desc k ∧ z_hh cm = []) ∨
   (kind = 2 ∧ (∃ w, z_tb w = some (.instanceMethod (z_nm cm))) ∧ (∃ n, k = n + 1 ∧ z_dscG (z_nm cm).desc n) ∧ z_hh cm = [] ∧ (z_met cm).2.2 = none ∧ (z_nm cm).name = "<init>"))
theorem z_d0 : z_dscG "()B" 0 := z_dscI (by decide +kernel)
theorem z_d1 : z_dscG "()I" 0 := z_dscI (by decide +kernel)
theorem z_d2 : z_dscG "()V" 0 := z_dscI (by decide +kernel)
theorem z_d3 : z_dscG "()Z" 0 := z_dscI (by decide +kernel)
theorem z_d4 : z_dscG "(I)C" 1 := z_dscI (by decide +kernel)
theorem z_d5 : z_dscG "(I)I" 1 := z_dscI (by decide +kernel)
theorem z_d6 : z_dscG "(I)V" 1 := z_dscI (by decide +kernel)
theorem z_d7 : z_dscG "(I)Z" 1 := z_dscI (by decide +kernel)
theorem z_d8 : z_dscG "(II)I" 2 := z_dscI (by decide +kernel)
theorem z_d9 : z_dscG "(II)V" 2 := z_dscI (by decide +kernel)
theorem z_d10 : z_dscG "(II)Z" 2 := z_dscI (by decide +kernel)
theorem z_d11 : z_dscG "(III)I" 3 := z_dscI (by decide +kernel)
theorem z_d12 : z_dscG "(III)V" 3 := z_dscI (by decide +kernel)
theorem z_d13 : z_dscG "(III)Z" 3 := z_dscI (by decide +kernel)
theorem z_d14 : z_dscG "(IIII)I" 4 := z_dscI (by decide +kernel)
theorem z_d15 : z_dscG "(IIII)V" 4 := z_dscI (by decide +kernel)
theorem z_d16 : z_dscG "(IIIII)I" 5 := z_dscI (by decide +kernel)
theorem z_d17 : z_dscG "(IIILjava/util/function/BiFunction;)I" 4 := z_dscI (by decide +kernel)
theorem z_d18 : z_dscG "(IILjava/util/function/BiFunction;)I" 3 := z_dscI (by decide +kernel)
theorem z_d19 : z_dscG "(II[B)V" 3 := z_dscI (by decide +kernel)
theorem z_d20 : z_dscG "(I[B)V" 2 := z_dscI (by decide +kernel)
theorem z_d21 : z_dscG "(J)I" 1 := z_dscI (by decide +kernel)
theorem z_d22 : z_dscG "(LFlowReader$Names;)V" 1 := z_dscI (by decide +kernel)
theorem z_d23 : z_dscG "(LFlowReader$Text;LFlowReader$Names;)V" 2 := z_dscI (by decide +kernel)
theorem z_d24 : z_dscG "(LFlowReader$Tokens;LFlowReader$Names;LFlowReader$Tree;LFlowReader$Scope;)V" 4 := z_dscI (by decide +kernel)
theorem z_d25 : z_dscG "(LFlowReader$Tree;LFlowReader$Scope;LFlowReader$Kernel;)V" 3 := z_dscI (by decide +kernel)
theorem z_d26 : z_dscG "(Ljava/lang/String;II)V" 3 := z_dscI (by decide +kernel)
theorem z_d27 : z_dscG "(Z)I" 1 := z_dscI (by decide +kernel)
theorem z_d28 : z_dscG "([B)I" 1 := z_dscI (by decide +kernel)
theorem z_d29 : z_dscG "([BI)C" 2 := z_dscI (by decide +kernel)
theorem z_d30 : z_dscG "([BIII)I" 4 := z_dscI (by decide +kernel)
theorem z_d31 : z_dscG "([II)I" 2 := z_dscI (by decide +kernel)
theorem z_d32 : z_dscG "([II)V" 2 := z_dscI (by decide +kernel)
theorem z_d33 : z_dscG "([III)V" 3 := z_dscI (by decide +kernel)
theorem z_g0 : z_clsG "FlowReader" := ⟨by decide +kernel, by decide +kernel, by decide +kernel⟩
theorem z_g1 : z_clsG "FlowReader$Builder" := ⟨by decide +kernel, by decide +kernel, by decide +kernel⟩
theorem z_g2 : z_clsG "FlowReader$Kernel" := ⟨by decide +kernel, by decide +kernel, by decide +kernel⟩
theorem z_g3 : z_clsG "FlowReader$Names" := ⟨by decide +kernel, by decide +kernel, by decide +kernel⟩
theorem z_g4 : z_clsG "FlowReader$Parser" := ⟨by decide +kernel, by decide +kernel, by decide +kernel⟩
theorem z_g5 : z_clsG "FlowReader$Scope" := ⟨by decide +kernel, by decide +kernel, by decide +kernel⟩
theorem z_g6 : z_clsG "FlowReader$Text" := ⟨by decide +kernel, by decide +kernel, by decide +kernel⟩
theorem z_g7 : z_clsG "FlowReader$Tokens" := ⟨by decide +kernel, by decide +kernel, by decide +kernel⟩
theorem z_g8 : z_clsG "FlowReader$Tree" := ⟨by decide +kernel, by decide +kernel, by decide +kernel⟩
theorem z_g9 : z_clsG "FlowReaderModel" := ⟨by decide +kernel, by decide +kernel, by decide +kernel⟩
theorem z_g10 : z_clsG "FlowReaderModel$Row" := ⟨by decide +kernel, by decide +kernel, by decide +kernel⟩
theorem z_g11 : z_clsG "java/lang/Character" := ⟨by decide +kernel, by decide +kernel, by decide +kernel⟩
theorem z_g12 : z_clsG "java/lang/String" := ⟨by decide +kernel, by decide +kernel, by decide +kernel⟩
theorem z_g13 : z_clsG "java/lang/StringLatin1" := ⟨by decide +kernel, by decide +kernel, by decide +kernel⟩
theorem z_g14 : z_clsG "java/lang/StringUTF16" := ⟨by decide +kernel, by decide +kernel, by decide +kernel⟩
theorem z_g15 : z_clsG "java/util/Arrays" := ⟨by decide +kernel, by decide +kernel, by decide +kernel⟩
theorem z_g16 : z_clsG "jdk/internal/util/Preconditions" := ⟨by decide +kernel, by decide +kernel, by decide +kernel⟩
