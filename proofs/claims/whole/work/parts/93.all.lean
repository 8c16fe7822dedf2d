section G3
variable {X : ge_X}
/-- every call of the law: both answer alike, and the two objects are in order again -/
theorem ge_all (n : Nat) (g : ge_G) (x0 : Int32) (ys : Nat → Int32) (hn : n ≤ 512) : ge_step X ge_I n x0 ys g := by
  intro hI
  exact ⟨fun _ => s_dread hI _ _, fun _ => s_eye hI _ _, fun _ => s_ofEye hI _ _, fun _ => s_change hI _ _ _, fun _ => s_wearer hI, fun _ => s_ofWearer hI _ _, fun _ => s_set hI _ _ _, fun _ => s_wear hI _ _ _, fun _ => s_become hI _ _, fun _ => s_as hI _ _, fun _ => s_feed hI _ _, fun _ => s_text hI _, fun _ => s_law hI _ _ _ _, fun _ => s_hours hI _, fun _ => s_loose hI _, fun _ => s_then hI _ _ _, fun _ => s_out hI _, fun _ => s_eyeFor hI _ _ _ _, fun _ => s_watch hI _ _, fun _ => s_whose hI _ _ _, fun _ => s_lend hI _, fun _ => s_blind hI _, fun _ => s_agree hI _, fun _ => s_dreads hI _, fun _ => s_swap hI _, fun _ => s_odds hI _ _ _ _, fun _ => s_seed hI _, fun _ => s_voice hI _ _ _, fun _ => s_trace hI _, fun _ => s_sheet hI _ _ _, fun _ => s_put hI _ _ _, fun _ => s_move hI _ _ _ _ _, fun _ => s_bases hI _, fun _ => s_judge hI _, fun _ => s_image hI, fun _ => s_restore hn hI, fun _ => s_tell hI _, fun _ => s_check hI, fun _ => s_count hI _, fun _ => s_told hI _⟩
end G3
