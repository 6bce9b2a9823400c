theorem smf : Cond.sameField "java/util/ArrayList" "java/util/AbstractList" "modCount" "I" ∈ lw_g := (mt1 (List.mem_of_getElem? (i := 116) (by decide +kernel)) rfl)
