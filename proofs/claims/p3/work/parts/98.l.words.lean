section LGS
variable {args : Array Value} {s : State}
theorem law_G (hts : ∀ w ∈ lw_tbl, w.before args s = true) (ht : ∀ w ∈ tables_1, w.before args s = true) : ∀ w ∈ lw_g, w.before args s = true := by
  intro w hw
  rcases List.mem_append.mp (List.mem_filter.mp hw).1 with h | h
  · unfold sbS at h
    have hi : (Cond.selects "java/lang/StringBuilder" ⟨"java/lang/AbstractStringBuilder", "isLatin1", "()Z"⟩ ⟨"java/lang/AbstractStringBuilder", "isLatin1", "()Z"⟩).before args s = true := tw ht 1349 (by decide +kernel)
    simp only [List.mem_cons, List.not_mem_nil, or_false] at h
    rcases h with rfl | rfl
    · exact sel_priv hi rfl ⟨by decide, by decide⟩ (tw ht 1336 (by decide +kernel)) (tw ht 1337 (by decide +kernel))
    · exact sel_priv hi rfl ⟨by decide, by decide⟩ (tw ht 1340 (by decide +kernel)) (tw ht 1341 (by decide +kernel))
  · exact hts w h
end LGS
