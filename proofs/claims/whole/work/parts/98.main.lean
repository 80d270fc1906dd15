/-! ===== what is owed of the calls ===== -/
theorem zz_all : zo_all 5000 (fun _ => True) := sorry
theorem zz_I0 : (fun _ : sm_M => True) (sm_I0, sm_R0) := trivial
