theorem tt_1 : ((mm_run (mm_Z 0 (fun _ => 0)) 20 9 0 (0, mm_ls0 0 [.ref 1000004], [], [])).map Prod.fst) = none := by decide +kernel
theorem tt_2 : ((mm_run (mm_Z 0 (fun _ => 0)) 1000 9 0 (0, mm_ls0 0 [.ref 1000004], [], [])).map Prod.fst) = some (.inl (some (.int 1))) := by decide +kernel
