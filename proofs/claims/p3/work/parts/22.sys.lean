def z_names : List MethodName := [⟨"FlowReaderLaw", "law", "([I)Z"⟩, ⟨"FlowReader", "<init>", "()V"⟩, ⟨"java/lang/Object", "<init>", "()V"⟩, ⟨"FlowReader$Text", "<init>", "()V"⟩, ⟨"FlowReader$Names", "<init>", "()V"⟩, ⟨"java/util/Arrays", "fill", "([II)V"⟩, ⟨"FlowReader$Names", "load", "(Ljava/lang/String;II)V"⟩, ⟨"FlowReader$Names", "begin", "()V"⟩, ⟨"java/lang/String", "length", "()I"⟩, ⟨"java/lang/String", "coder", "()B"⟩, ⟨"java/lang/String", "charAt", "(I)C"⟩, ⟨"java/lang/String", "isLatin1", "()Z"⟩, ⟨"java/lang/StringLatin1", "charAt", "([BI)C"⟩, ⟨"java/lang/String", "checkIndex", "(II)V"⟩, ⟨"jdk/internal/util/Preconditions", "checkIndex", "(IILjava/util/function/BiFunction;)I"⟩, ⟨"java/lang/StringUTF16", "charAt", "([BI)C"⟩, ⟨"java/lang/StringUTF16", "checkIndex", "(I[B)V"⟩, ⟨"java/lang/StringUTF16", "length", "([B)I"⟩, ⟨"java/lang/StringUTF16", "getChar", "([BI)C"⟩, ⟨"FlowReader$Names", "settle", "(I)I"⟩, ⟨"FlowReader$Names", "hashOfTried", "()I"⟩, ⟨"FlowReader", "at", "([II)I"⟩, ⟨"FlowReader$Names", "isTried", "(I)Z"⟩, ⟨"FlowReader$Names", "lengthOf", "(I)I"⟩, ⟨"FlowReader$Names", "add", "(II)I"⟩, ⟨"FlowReader", "set", "([III)V"⟩, ⟨"FlowReader$Names", "tryByte", "(I)V"⟩, ⟨"FlowReader$Tokens", "<init>", "(LFlowReader$Text;LFlowReader$Names;)V"⟩, ⟨"FlowReader$Kernel", "<init>", "(LFlowReader$Names;)V"⟩, ⟨"FlowReader$Kernel", "clear", "()V"⟩, ⟨"FlowReader$Names", "entryOfBasis", "(I)I"⟩, ⟨"FlowReader$Kernel", "makeVariable", "(I)I"⟩, ⟨"FlowReader$Tree", "<init>", "()V"⟩, ⟨"FlowReader$Scope", "<init>", "(LFlowReader$Names;)V"⟩, ⟨"FlowReader$Parser", "<init>", "(LFlowReader$Tokens;LFlowReader$Names;LFlowReader$Tree;LFlowReader$Scope;)V"⟩, ⟨"FlowReader$Builder", "<init>", "(LFlowReader$Tree;LFlowReader$Scope;LFlowReader$Kernel;)V"⟩, ⟨"FlowReader", "forgetFault", "()V"⟩, ⟨"FlowReader", "put", "(J)I"⟩, ⟨"FlowReader$Text", "append", "(J)I"⟩, ⟨"FlowReader$Text", "bytesIn", "(J)I"⟩, ⟨"FlowReader", "cut", "(I)I"⟩, ⟨"FlowReader$Text", "shorten", "(I)I"⟩, ⟨"FlowReader$Tokens", "scan", "()V"⟩, ⟨"FlowReader$Names", "reset", "()V"⟩, ⟨"FlowReader$Tokens", "pastBlanks", "(I)I"⟩, ⟨"FlowReader$Text", "length", "()I"⟩, ⟨"FlowReader$Text", "byteAt", "(I)I"⟩, ⟨"FlowReader$Tokens", "one", "(I)V"⟩, ⟨"FlowReader$Tokens", "name", "(II)V"⟩, ⟨"FlowReader$Tokens", "pastName", "(I)I"⟩, ⟨"FlowReader$Tokens", "isNamePart", "(I)Z"⟩, ⟨"FlowReader$Tokens", "isDigit", "(I)Z"⟩, ⟨"FlowReader$Tokens", "add", "(III)V"⟩, ⟨"FlowReader$Names", "kindOf", "(I)I"⟩, ⟨"FlowReader$Names", "atomOf", "(I)I"⟩, ⟨"FlowReader$Tokens", "integer", "(I)V"⟩, ⟨"java/lang/Math", "min", "(JJ)J"⟩, ⟨"FlowReader$Tokens", "sign", "(I)V"⟩, ⟨"java/lang/String", "indexOf", "(I)I"⟩, ⟨"java/lang/String", "indexOf", "(II)I"⟩, ⟨"java/lang/StringLatin1", "indexOf", "([BIII)I"⟩, ⟨"java/lang/StringLatin1", "canEncode", "(I)Z"⟩, ⟨"java/lang/Math", "max", "(II)I"⟩, ⟨"java/lang/Math", "min", "(II)I"⟩, ⟨"java/lang/StringLatin1", "indexOfChar", "([BIII)I"⟩, ⟨"java/lang/StringUTF16", "indexOf", "([BIII)I"⟩, ⟨"java/lang/StringUTF16", "indexOfChar", "([BIII)I"⟩, ⟨"java/lang/StringUTF16", "checkBoundsBeginEnd", "(II[B)V"⟩, ⟨"java/lang/String", "checkBoundsBeginEnd", "(III)V"⟩, ⟨"jdk/internal/util/Preconditions", "checkFromToIndex", "(IIILjava/util/function/BiFunction;)I"⟩, ⟨"java/lang/StringUTF16", "indexOfCharUnsafe", "([BIII)I"⟩, ⟨"java/lang/StringUTF16", "indexOfSupplementary", "([BIII)I"⟩, ⟨"java/lang/Character", "isValidCodePoint", "(I)Z"⟩, ⟨"java/lang/Character", "highSurrogate", "(I)C"⟩, ⟨"java/lang/Character", "lowSurrogate", "(I)C"⟩, ⟨"FlowReader$Parser", "program", "()I"⟩, ⟨"FlowReader$Tree", "clear", "()V"⟩, ⟨"FlowReader$Scope", "clear", "()V"⟩, ⟨"FlowReader$Scope", "bind", "(I)I"⟩, ⟨"FlowReader$Scope", "setVariable", "(II)V"⟩, ⟨"FlowReader$Parser", "advance", "()V"⟩, ⟨"FlowReader$Tokens", "troubleAt", "(I)I"⟩, ⟨"java/lang/Throwable", "<init>", "()V"⟩, ⟨"java/lang/IllegalStateException", "<init>", "()V"⟩, ⟨"java/lang/RuntimeException", "<init>", "()V"⟩, ⟨"java/lang/Exception", "<init>", "()V"⟩, ⟨"FlowReader$Tokens", "kind", "(I)I"⟩, ⟨"FlowReader$Tokens", "value", "(I)I"⟩, ⟨"FlowReader$Parser", "block", "(Z)I"⟩, ⟨"FlowReader$Parser", "exp", "()I"⟩, ⟨"FlowReader$Parser", "compared", "()I"⟩, ⟨"FlowReader$Parser", "part", "()I"⟩, ⟨"FlowReader$Parser", "atomic", "()I"⟩, ⟨"FlowReader$Parser", "leaf", "(II)I"⟩, ⟨"FlowReader$Tree", "make", "(IIII)I"⟩, ⟨"FlowReader$Parser", "bracketIsNext", "()Z"⟩, ⟨"FlowReader$Names", "entryOfAtom", "(I)I"⟩, ⟨"FlowReader$Tokens", "start", "(I)I"⟩, ⟨"FlowReader$Parser", "record", "()I"⟩, ⟨"FlowReader$Parser", "open", "()V"⟩, ⟨"FlowReader$Parser", "fail", "(I)I"⟩, ⟨"FlowReader$Parser", "isFeature", "(I)Z"⟩, ⟨"FlowReader$Parser", "featuredFields", "()I"⟩, ⟨"FlowReader$Parser", "feature", "(II)I"⟩, ⟨"FlowReader$Tree", "has", "(II)Z"⟩, ⟨"FlowReader$Parser", "need", "(I)V"⟩, ⟨"FlowReader$Tree", "chain", "(II)I"⟩, ⟨"FlowReader$Parser", "fields", "()I"⟩, ⟨"FlowReader$Parser", "refuseExp", "()V"⟩, ⟨"FlowReader$Parser", "beginsExp", "(I)Z"⟩, ⟨"FlowReader$Parser", "opens", "(I)Z"⟩, ⟨"FlowReader$Parser", "meaning", "()I"⟩, ⟨"FlowReader$Scope", "meaning", "(I)I"⟩, ⟨"FlowReader$Parser", "close", "(I)V"⟩, ⟨"FlowReader$Parser", "list", "()I"⟩, ⟨"FlowReader$Tree", "setB", "(II)V"⟩, ⟨"FlowReader$Parser", "apply", "()I"⟩, ⟨"FlowReader$Parser", "procedure", "(Z)I"⟩, ⟨"FlowReader$Scope", "next", "()I"⟩, ⟨"FlowReader$Parser", "variables", "()I"⟩, ⟨"FlowReader$Parser", "bind", "(II)I"⟩, ⟨"FlowReader$Scope", "leave", "(II)V"⟩, ⟨"FlowReader$Parser", "local", "(Z)I"⟩, ⟨"FlowReader$Parser", "choice", "(Z)I"⟩, ⟨"FlowReader$Parser", "otherwise", "(Z)I"⟩, ⟨"FlowReader$Parser", "cases", "(Z)I"⟩, ⟨"FlowReader$Parser", "pattern", "()I"⟩, ⟨"FlowReader$Parser", "slots", "()I"⟩, ⟨"FlowReader$Parser", "slot", "(III)I"⟩, ⟨"FlowReader$Parser", "thread", "(Z)I"⟩, ⟨"FlowReader$Parser", "operation", "(I)I"⟩, ⟨"FlowReader$Parser", "isProduct", "(I)Z"⟩, ⟨"FlowReader$Parser", "isSum", "(I)Z"⟩, ⟨"FlowReader$Parser", "oneItem", "()I"⟩, ⟨"FlowReader$Parser", "attempt", "()I"⟩, ⟨"FlowReader$Tree", "kind", "(I)I"⟩, ⟨"FlowReader$Parser", "beginsItem", "(I)Z"⟩, ⟨"FlowReader", "keepFault", "()V"⟩, ⟨"FlowReader$Parser", "trouble", "()I"⟩, ⟨"FlowReader$Parser", "place", "()I"⟩, ⟨"FlowReader$Text", "line", "(I)I"⟩, ⟨"FlowReader$Text", "column", "(I)I"⟩, ⟨"FlowReader$Parser", "marks", "()I"⟩, ⟨"FlowReader$Builder", "program", "(I)I"⟩, ⟨"FlowReader$Builder", "body", "(II)I"⟩, ⟨"FlowReader$Tree", "a", "(I)I"⟩, ⟨"FlowReader$Builder", "single", "(II)V"⟩, ⟨"FlowReader$Builder", "plainItem", "(I)V"⟩, ⟨"FlowReader$Builder", "emit", "(IIII)V"⟩, ⟨"FlowReader$Kernel", "make", "(IIII)I"⟩, ⟨"FlowReader$Builder", "append", "(I)V"⟩, ⟨"FlowReader$Kernel", "link", "(II)V"⟩, ⟨"FlowReader$Tree", "b", "(I)I"⟩, ⟨"FlowReader$Builder", "unify", "(II)V"⟩, ⟨"FlowReader$Builder", "isVariable", "(I)Z"⟩, ⟨"FlowReader$Scope", "variable", "(I)I"⟩, ⟨"FlowReader$Builder", "into", "(II)V"⟩, ⟨"FlowReader$Builder", "record", "(II)V"⟩, ⟨"FlowReader$Builder", "target", "(I)I"⟩, ⟨"FlowReader$Builder", "makeFresh", "()I"⟩, ⟨"FlowReader$Tree", "setVariable", "(II)V"⟩, ⟨"FlowReader$Tree", "next", "(I)I"⟩, ⟨"FlowReader$Tree", "variable", "(I)I"⟩, ⟨"FlowReader$Kernel", "addPair", "(II)V"⟩, ⟨"FlowReader$Kernel", "add", "(I)V"⟩, ⟨"FlowReader$Kernel", "sortPairs", "(I)V"⟩, ⟨"FlowReader$Kernel", "isBefore", "(II)Z"⟩, ⟨"FlowReader$Names", "compareAtoms", "(II)I"⟩, ⟨"FlowReader$Names", "byteOf", "(II)I"⟩, ⟨"FlowReader$Builder", "pairs", "(II)V"⟩, ⟨"FlowReader$Builder", "operations", "(II)V"⟩, ⟨"FlowReader$Builder", "await", "(I)V"⟩, ⟨"FlowReader$Builder", "nextOperand", "(I)I"⟩, ⟨"FlowReader$Builder", "operate", "(I)V"⟩, ⟨"FlowReader$Tree", "c", "(I)I"⟩, ⟨"FlowReader$Builder", "isOperation", "(I)Z"⟩, ⟨"FlowReader$Builder", "apply", "(II)V"⟩, ⟨"FlowReader$Builder", "asVariable", "(I)I"⟩, ⟨"FlowReader$Builder", "procedure", "(II)V"⟩, ⟨"FlowReader$Builder", "bear", "(II)V"⟩, ⟨"FlowReader$Scope", "entry", "(I)I"⟩, ⟨"FlowReader$Builder", "addVariables", "(II)V"⟩, ⟨"FlowReader$Builder", "local", "(II)V"⟩, ⟨"FlowReader$Builder", "choice", "(II)V"⟩, ⟨"FlowReader$Builder", "cases", "(II)V"⟩, ⟨"FlowReader$Builder", "bearSlots", "(I)V"⟩, ⟨"FlowReader$Tree", "setC", "(II)V"⟩, ⟨"FlowReader$Builder", "noMatch", "()I"⟩, ⟨"FlowReader$Builder", "addPattern", "(I)V"⟩, ⟨"FlowReader$Builder", "attempt", "(I)V"⟩, ⟨"FlowReader$Kernel", "next", "(I)I"⟩, ⟨"FlowReader", "fault", "(I)I"⟩, ⟨"FlowReader", "count", "(I)I"⟩, ⟨"FlowReader$Kernel", "statements", "()I"⟩, ⟨"FlowReader$Kernel", "variables", "()I"⟩, ⟨"FlowReader$Names", "atoms", "()I"⟩, ⟨"FlowReader", "node", "(II)I"⟩, ⟨"FlowReader$Kernel", "part", "(II)I"⟩, ⟨"FlowReader", "item", "(II)I"⟩, ⟨"FlowReader$Kernel", "itemOf", "(II)I"⟩, ⟨"FlowReader", "atomByte", "(II)I"⟩, ⟨"FlowReader", "nameByte", "(II)I"⟩, ⟨"FlowReader$Kernel", "nameOf", "(I)I"⟩, ⟨"FlowReader", "uses", "()I"⟩, ⟨"FlowReaderModel", "<init>", "()V"⟩, ⟨"FlowReaderModel$Row", "<init>", "()V"⟩, ⟨"FlowReaderModel", "begin", "()V"⟩, ⟨"FlowReaderModel$Row", "add", "(I)I"⟩, ⟨"FlowReaderModel", "put", "(J)I"⟩, ⟨"FlowReaderModel", "cut", "(I)I"⟩, ⟨"FlowReaderModel", "cutTokens", "()V"⟩, ⟨"FlowReaderModel", "past", "(I)I"⟩, ⟨"FlowReaderModel", "byteAt", "(I)I"⟩, ⟨"FlowReaderModel", "one", "(I)I"⟩, ⟨"FlowReaderModel", "isSmall", "(I)Z"⟩, ⟨"FlowReaderModel", "isLarge", "(I)Z"⟩, ⟨"FlowReaderModel", "goesOn", "(I)Z"⟩, ⟨"FlowReaderModel", "isDigit", "(I)Z"⟩, ⟨"FlowReaderModel", "wordAt", "(II)V"⟩, ⟨"FlowReaderModel", "wordOf", "(II)I"⟩, ⟨"FlowReaderModel", "atomOf", "(II)I"⟩, ⟨"FlowReaderModel", "isAtom", "(III)Z"⟩, ⟨"FlowReaderModel", "nameOf", "(II)I"⟩, ⟨"FlowReaderModel", "isName", "(III)Z"⟩, ⟨"FlowReaderModel", "token", "(IIII)V"⟩, ⟨"FlowReaderModel", "integer", "(I)I"⟩, ⟨"FlowReaderModel", "sign", "(I)I"⟩, ⟨"FlowReaderModel", "body", "()I"⟩, ⟨"FlowReaderModel", "beginsItem", "()Z"⟩, ⟨"FlowReaderModel", "beginsExp", "()Z"⟩, ⟨"FlowReaderModel", "isSign", "(I)Z"⟩, ⟨"FlowReaderModel", "isWord", "(I)Z"⟩, ⟨"FlowReaderModel", "fail", "(I)V"⟩, ⟨"FlowReaderModel", "item", "()I"⟩, ⟨"FlowReaderModel", "local", "(Z)I"⟩, ⟨"FlowReaderModel", "enter", "()V"⟩, ⟨"FlowReaderModel", "binds", "()I"⟩, ⟨"FlowReaderModel", "bind", "(II)I"⟩, ⟨"FlowReaderModel$Row", "get", "(I)I"⟩, ⟨"FlowReaderModel", "node", "(IIII)I"⟩, ⟨"FlowReaderModel", "link", "(III)I"⟩, ⟨"FlowReaderModel", "needWord", "(I)V"⟩, ⟨"FlowReaderModel", "bodyOr", "(Z)I"⟩, ⟨"FlowReaderModel", "value", "()I"⟩, ⟨"FlowReaderModel", "closeWord", "(I)V"⟩, ⟨"FlowReaderModel", "exp", "()I"⟩, ⟨"FlowReaderModel", "compared", "()I"⟩, ⟨"FlowReaderModel", "sum", "()I"⟩, ⟨"FlowReaderModel", "product", "()I"⟩, ⟨"FlowReaderModel", "part", "()I"⟩, ⟨"FlowReaderModel", "atomic", "()I"⟩, ⟨"FlowReaderModel", "atomOrRecord", "()I"⟩, ⟨"FlowReaderModel", "isBracketed", "()Z"⟩, ⟨"FlowReaderModel", "isFeature", "()Z"⟩, ⟨"FlowReaderModel", "isColon", "()Z"⟩, ⟨"FlowReaderModel", "named", "(Z)I"⟩, ⟨"FlowReaderModel", "anyFeature", "()I"⟩, ⟨"FlowReaderModel", "needSign", "(I)V"⟩, ⟨"FlowReaderModel", "slot", "(III)I"⟩, ⟨"FlowReaderModel", "fieldExp", "()I"⟩, ⟨"FlowReaderModel", "plainFields", "()I"⟩, ⟨"FlowReaderModel", "tooMany", "()V"⟩, ⟨"FlowReaderModel", "used", "()I"⟩, ⟨"FlowReaderModel", "opens", "()Z"⟩, ⟨"FlowReaderModel", "closeSign", "(I)V"⟩, ⟨"FlowReaderModel", "elements", "(Z)I"⟩, ⟨"FlowReaderModel", "applied", "()I"⟩, ⟨"FlowReaderModel", "procedure", "()I"⟩, ⟨"FlowReaderModel", "choice", "(Z)I"⟩, ⟨"FlowReaderModel", "cases", "(Z)I"⟩, ⟨"FlowReaderModel", "pattern", "()I"⟩, ⟨"FlowReaderModel", "plainSlots", "()I"⟩, ⟨"FlowReaderModel", "thread", "(Z)I"⟩, ⟨"FlowReaderModel", "feature", "()I"⟩, ⟨"FlowReaderModel$Row", "take", "()I"⟩, ⟨"FlowReaderModel", "attempt", "()I"⟩, ⟨"FlowReaderModel", "bodyRow", "(I)I"⟩, ⟨"FlowReaderModel", "goItem", "(I)V"⟩, ⟨"FlowReaderModel", "statement", "(IIIII)I"⟩, ⟨"FlowReaderModel", "push", "(I)V"⟩, ⟨"FlowReaderModel", "same", "(II)V"⟩, ⟨"FlowReaderModel", "into", "(II)V"⟩, ⟨"FlowReaderModel", "record", "(II)V"⟩, ⟨"FlowReaderModel", "partOf", "(I)I"⟩, ⟨"FlowReaderModel", "fresh", "()I"⟩, ⟨"FlowReaderModel", "newVariable", "()I"⟩, ⟨"FlowReaderModel", "sortPairs", "(I)V"⟩, ⟨"FlowReaderModel", "isBefore", "(II)Z"⟩, ⟨"FlowReaderModel", "atomByte", "(II)I"⟩, ⟨"FlowReaderModel", "listInto", "(II)V"⟩, ⟨"FlowReaderModel", "pairStatement", "(III)V"⟩, ⟨"FlowReaderModel", "operate", "(II)V"⟩, ⟨"FlowReaderModel", "firstOf", "(I)I"⟩, ⟨"FlowReaderModel", "isOperation", "(I)Z"⟩, ⟨"FlowReaderModel", "asVariable", "(I)I"⟩, ⟨"FlowReaderModel", "apply", "(II)V"⟩, ⟨"FlowReaderModel", "makeProcedure", "(II)V"⟩, ⟨"FlowReaderModel", "number", "(I)I"⟩, ⟨"FlowReaderModel", "valueRow", "(II)I"⟩, ⟨"FlowReaderModel", "wrap", "(II)V"⟩, ⟨"FlowReaderModel", "row", "(I)I"⟩, ⟨"FlowReaderModel", "construct", "(II)V"⟩, ⟨"FlowReaderModel", "clauses", "(III)V"⟩, ⟨"FlowReaderModel", "noMatch", "()I"⟩, ⟨"FlowReaderModel", "goTry", "(I)V"⟩, ⟨"FlowReaderModel", "fault", "(I)I"⟩, ⟨"FlowReaderModel", "count", "(I)I"⟩, ⟨"FlowReaderModel", "node", "(II)I"⟩, ⟨"FlowReaderModel", "item", "(II)I"⟩, ⟨"FlowReaderModel", "nameByte", "(II)I"⟩, ⟨"FlowReaderModel", "uses", "()I"⟩, ⟨"FlowReader", "read", "()I"⟩, ⟨"FlowReaderModel", "read", "()I"⟩]
def z_nm (mi : Nat) : MethodName := match z_names[mi]? with
  | some x => x
  | none => ⟨"", "", ""⟩
set_option maxRecDepth 1000000 in
theorem z_own_ok : (List.range 313).all (fun mi => decide (z_owns[z_own mi]? = some (z_nm mi).cls)) = true := by decide +kernel
theorem z_own_at {mi : Nat} (h : mi < 313) : z_owns[z_own mi]? = some (z_nm mi).cls := of_decide_eq_true (List.all_eq_true.mp z_own_ok mi (List.mem_range.mpr h))
theorem z_own_out {mi : Nat} (h : ¬ mi < 313) : z_own mi = 999 := by
  unfold z_own
  have : Nat.blt mi 313 = false := by
    cases hb : Nat.blt mi 313 with
    | false => rfl
    | true => exact absurd (Nat.blt_eq.mp hb) h
  rw [this]
  rfl
theorem z_fldOk {mi : Nat} {s : State} {args : Array Value} (hts : ∀ w ∈ z_Ts, w.before args s = true) (hnw : ∀ w ∈ lw_tbl, y_isN w = true → w.before args s = true) : y_FldOk s args (z_nm mi).cls z_Ts z_cl (z_fld mi) := by
  intro idx ci k fin ty C T N hf hcl
  have hm := z_find_mem hf
  have hmi : mi < 313 := by
    rcases Nat.lt_or_ge mi 313 with h | h
    · exact h
    · rw [z_own_out (by omega)] at hm
      exact absurd hm (by rw [show z_nth z_fldL 999 = [] from rfl]; exact List.not_mem_nil)
  have hc := z_every_at (o := 0) z_fld_ok hm
  rw [Nat.zero_add] at hc
  unfold z_fldC at hc
  dsimp only at hc
  rw [z_own_at hmi, hcl] at hc
  obtain ⟨c1, c2, c3⟩ := z_cl_at hcl
  cases hw : z_find (z_nth z_fldW (z_own mi)) idx with
  | none => rw [hw] at hc; cases hc
  | some q =>
    obtain ⟨w, kd⟩ := q
    rw [hw] at hc
    dsimp only at hc
    simp only [Bool.and_eq_true, decide_eq_true_eq] at hc
    obtain ⟨⟨⟨h1, h2⟩, h3⟩, h4⟩ := hc
    refine ⟨fun j => (parseFieldDescriptor (T j).2.2.1).getD .int, Nat.blt_eq.mp h1, c1, c2, c3, by show (parseFieldDescriptor (T k).2.2.1).getD .int = ty; rw [h2]; rfl, fun hf0 => ?_, fun hf1 => ?_, ?_⟩
    · subst hf0
      simpa using h3
    · subst hf1
      simpa using h3
    · cases hk : Nat.beq kd 0 with
      | true =>
        rw [hk] at h4
        have h5 := of_decide_eq_true h4
        exact Or.inl (hts _ (List.mem_filter.mpr ⟨List.mem_of_getElem? h5, rfl⟩))
      | false =>
        rw [hk] at h4
        simp only [cond_false, Bool.and_eq_true, Bool.not_eq_true', decide_eq_true_eq] at h4
        exact Or.inr ⟨fun q => by rw [q] at h4; exact absurd h4.1 (by decide), _, hnw _ (List.mem_of_getElem? h4.2) rfl⟩

def z_clsW : List (List (Nat × (Nat × Nat × Nat))) := [[(7, (190, 191, 167)), (10, (1336, 1337, 181))], [(7, (198, 199, 168)), (16, (212, 213, 169)), (23, (345, 346, 175)), (32, (379, 380, 176)), (41, (438, 439, 177)), (44, (466, 467, 178)), (47, (491, 492, 179)), (56, (528, 529, 180))], [], [], [], [], [], [], [], [], [], [], [], [], [], [], [], [], [], [], [], [], [(38, (1342, 1343, 182))], []]
def z_conW : List (List (Nat × Nat)) := [[(26, 1924)], [], [], [(54, 614)], [], [], [], [], [], [(454, 729)], [(206, 687), (210, 688), (214, 689), (230, 693), (234, 694)], [(166, 1317)], [], [], [], [], [], [(152, 758), (220, 754)], [], [], [], [], [(238, 1508), (426, 1578), (430, 1579), (434, 1580), (980, 1914)], []]
noncomputable def z_clsC (o : Nat) (e : Nat × (Nat × List Value)) : Bool := match e with
  | (idx, ci, fs) => (match z_owns[o]?, z_cl[ci]?, z_find (z_nth z_clsW o) idx with
    | some own, some (C, T, N), some (w1, w2, w3) => Nat.beq N fs.length && (List.range N).all (fun j => decide (defaultValue ((parseFieldDescriptor (T j).2.2.1).getD .int) = vp_V fs j)) && decide (lw_tbl[w1]? = some (.classLink own idx C)) && decide (lw_tbl[w2]? = some (.instantiable C N)) && decide (lw_tbl[w3]? = some (.initialized C))
    | _, _, _ => false)
set_option maxRecDepth 1000000 in
theorem z_cls_ok : z_every z_clsC 0 z_clsL = true := by decide +kernel
noncomputable def z_conC (o : Nat) (e : Nat × Value) : Bool := match e with
  | (j, .int v) => Nat.beq (j % 2) 1 || (match z_owns[o]?, z_find (z_nth z_conW o) j with
    | some own, some w => decide (lw_tbl[w]? = some (.constant own (j / 2) v))
    | _, _ => false)
  | (j, .long v) => (match z_owns[o]?, z_find (z_nth z_conW o) j with
    | some own, some w => decide (lw_tbl[w]? = some (.constantLong own (j / 2) v))
    | _, _ => false)
  | _ => true
set_option maxRecDepth 1000000 in
theorem z_con_ok : z_every z_conC 0 z_conL = true := by decide +kernel
theorem z_in {α : Type} {ls : List (List (Nat × α))} {mi idx : Nat} {v : α} (hout : z_nth ls 999 = []) (hf : z_find (z_nth ls (z_own mi)) idx = some v) : mi < 313 ∧ (idx, v) ∈ z_nth ls (z_own mi) := by
  have hm := z_find_mem hf
  refine ⟨?_, hm⟩
  rcases Nat.lt_or_ge mi 313 with h | h
  · exact h
  · rw [z_own_out (by omega), hout] at hm
    exact absurd hm List.not_mem_nil
theorem z_clsOk {mi : Nat} {s : State} {args : Array Value} (hts : ∀ w ∈ z_Ts, w.before args s = true) : y_ClsOk s args (z_nm mi).cls z_Ts z_cl (z_cls mi) := by
  intro idx ci fs hf
  obtain ⟨hmi, hm⟩ := z_in rfl hf
  have hc := z_every_at (o := 0) z_cls_ok hm
  rw [Nat.zero_add] at hc
  unfold z_clsC at hc
  dsimp only at hc
  rw [z_own_at hmi] at hc
  cases hcl : z_cl[ci]? with
  | none => rw [hcl] at hc; cases hc
  | some q =>
    obtain ⟨C, T, N⟩ := q
    rw [hcl] at hc
    cases hw : z_find (z_nth z_clsW (z_own mi)) idx with
    | none => rw [hw] at hc; cases hc
    | some q =>
      obtain ⟨w1, w2, w3⟩ := q
      rw [hw] at hc
      simp only [Bool.and_eq_true, decide_eq_true_eq] at hc
      obtain ⟨⟨⟨⟨h1, h2⟩, h3⟩, h4⟩, h5⟩ := hc
      have hN : N = fs.length := Nat.eq_of_beq_eq_true h1
      subst hN
      obtain ⟨c1, c2, c3⟩ := z_cl_at hcl
      exact ⟨C, T, fun j => (parseFieldDescriptor (T j).2.2.1).getD .int, rfl, c1, c2, fun j hj => of_decide_eq_true (List.all_eq_true.mp h2 j (List.mem_range.mpr hj)), hts _ (List.mem_filter.mpr ⟨List.mem_of_getElem? h3, rfl⟩), hts _ (List.mem_filter.mpr ⟨List.mem_of_getElem? h4, rfl⟩), hts _ (List.mem_filter.mpr ⟨List.mem_of_getElem? h5, rfl⟩)⟩
theorem z_conOk {mi : Nat} {s : State} {args : Array Value} (hts : ∀ w ∈ z_Ts, w.before args s = true) : y_ConOk s args (z_nm mi).cls (z_con mi) := by
  refine ⟨fun idx v hf => ?_, fun idx v hf => ?_⟩
  · obtain ⟨hmi, hm⟩ := z_in rfl hf
    have hc := z_every_at (o := 0) z_con_ok hm
    rw [Nat.zero_add] at hc
    unfold z_conC at hc
    dsimp only at hc
    rw [z_own_at hmi] at hc
    rw [Bool.or_eq_true] at hc
    rcases hc with hc | hc
    · have := Nat.eq_of_beq_eq_true hc
      omega
    · cases hw : z_find (z_nth z_conW (z_own mi)) (2 * idx) with
      | none => rw [hw] at hc; cases hc
      | some w =>
        rw [hw] at hc
        have h5 := of_decide_eq_true hc
        rw [show 2 * idx / 2 = idx by omega] at h5
        exact hts _ (List.mem_filter.mpr ⟨List.mem_of_getElem? h5, rfl⟩)
  · obtain ⟨hmi, hm⟩ := z_in rfl hf
    have hc := z_every_at (o := 0) z_con_ok hm
    rw [Nat.zero_add] at hc
    unfold z_conC at hc
    dsimp only at hc
    rw [z_own_at hmi] at hc
    cases hw : z_find (z_nth z_conW (z_own mi)) (2 * idx) with
    | none => rw [hw] at hc; cases hc
    | some w =>
      rw [hw] at hc
      have h5 := of_decide_eq_true hc
      rw [show 2 * idx / 2 = idx by omega] at h5
      exact hts _ (List.mem_filter.mpr ⟨List.mem_of_getElem? h5, rfl⟩)

