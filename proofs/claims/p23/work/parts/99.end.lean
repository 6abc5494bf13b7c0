/-- what is owed (i_vc's statement) can't be proved: its first half is false -/
theorem zz_no : ¬ (Claimed_1_1 ∧ Claimed_1_2) := fun h => gh_false h.1
