/-! PURE 69: every answer of the class is the reference's. -/
theorem law_goal : LawGoal := fun sa hinj b Ls xs a hL => by
  rw [hp_start]
  exact law_of inv_0 pr_say pr_wipe pr_item pr_read pr_fault (pr_written hinj) pr_field pr_group pr_length pr_put pr_come pr_event pr_next pr_last pr_want pr_made pr_count pr_image pr_restore b Ls xs hL
