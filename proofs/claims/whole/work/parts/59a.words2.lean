/-! WORDS, three more. -/
theorem sf_modCount : Cond.sameField "java/util/ArrayList" "java/util/AbstractList" "modCount" "I" ∈ allW := mw1 60 rfl rfl
theorem se_getClassO : Cond.selects "[Ljava/lang/Object;" ⟨"java/lang/Object", "getClass", "()Ljava/lang/Class;"⟩ ⟨"java/lang/Object", "getClass", "()Ljava/lang/Class;"⟩ ∈ allW := mw7 63 rfl rfl
