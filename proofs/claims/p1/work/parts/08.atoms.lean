/-! The atoms of 'throw new IllegalArgumentException()' in Tokens. -/
def xt_ex : List Cond := [.castable "java/lang/IllegalArgumentException" "java/lang/IllegalArgumentException", .declares (Bundle.init0 "java/lang/RuntimeException"), .declares (Bundle.init0 "java/lang/Exception"), .declares (Bundle.init0 "java/lang/Throwable"), .isRef (.static "java/lang/Throwable" "UNASSIGNED_STACK" "[Ljava/lang/StackTraceElement;"), .isRef (.static "java/lang/Throwable" "SUPPRESSED_SENTINEL" "Ljava/util/List;"), .laysStatic "java/lang/Throwable" "UNASSIGNED_STACK" "[Ljava/lang/StackTraceElement;", .laysStatic "java/lang/Throwable" "SUPPRESSED_SENTINEL" "Ljava/util/List;"]
set_option maxRecDepth 100000 in
theorem xt_all : ∀ a ∈ Bundle.ownAtoms0 "TypeFinder$Tokens" 76 "java/lang/IllegalArgumentException" ["java/lang/RuntimeException", "java/lang/Exception"], a ∈ xb_g ∨ a ∈ xt_ex := by decide +kernel
theorem xb_at_Tokens {p : Program} {s : State} {m : MethodId} {args : Array Value} {c : Code} {cc : ByteArray} {nL : Nat} {own : String} {G : xb_EV} {ss : List (Nat × Nat × Nat × (Nat → Int32))} {A : Nat → Prop} (F : xb_F p s m args c cc nL own G ss A) : ∀ a ∈ Bundle.ownAtoms0 "TypeFinder$Tokens" 76 "java/lang/IllegalArgumentException" ["java/lang/RuntimeException", "java/lang/Exception"], a.before args s = true := by
  intro a ha
  rcases xt_all a ha with h | h
  · exact F.1.2.2.2.2 a h
  · obtain ⟨-, -, -, -, -, -, h7, -, h9, h10⟩ := F.2.2.2.1
    simp only [xt_ex, List.mem_cons, List.not_mem_nil, or_false] at h
    rcases h with rfl | rfl | rfl | rfl | rfl | rfl | rfl | rfl
    · exact va_any rfl (h7 ("java/lang/IllegalArgumentException", "java/lang/IllegalArgumentException") (by decide))
    · exact va_any rfl (h9 ⟨"java/lang/RuntimeException", "<init>", "()V"⟩ (by decide))
    · exact va_any rfl (h9 ⟨"java/lang/Exception", "<init>", "()V"⟩ (by decide))
    · exact va_any rfl (h9 ⟨"java/lang/Throwable", "<init>", "()V"⟩ (by decide))
    · exact (h10 ("UNASSIGNED_STACK", "[Ljava/lang/StackTraceElement;") (by decide)).isref
    · exact (h10 ("SUPPRESSED_SENTINEL", "Ljava/util/List;") (by decide)).isref
    · exact (h10 ("UNASSIGNED_STACK", "[Ljava/lang/StackTraceElement;") (by decide)).lays
    · exact (h10 ("SUPPRESSED_SENTINEL", "Ljava/util/List;") (by decide)).lays
