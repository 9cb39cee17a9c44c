theorem IV_zb {x : Int32} (h : IV 0 1 x) : IV 0 1 (vp_nar .boolean x) := by
  rcases IV_bool h with rfl | rfl
  · exact ⟨by decide, by decide⟩
  · exact ⟨by decide, by decide⟩
