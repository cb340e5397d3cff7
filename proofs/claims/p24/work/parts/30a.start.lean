/-! what the start gives of the classes, the texts and the exceptions -/
theorem bwL_in : ∀ w ∈ bwL, w ∈ lw_tbl := by decide +kernel
theorem vkR_start {own tx : String} {k : Nat} {A : Array Value} {s : State} (h1 : (Cond.stringRef own k tx).before A s = true) (h2 : (Cond.exactly (Term.string own k) "java/lang/String").before A s = true) : ∃ a, vk_R own k tx a s := by
  obtain ⟨a, c, cell, kk, ha, -⟩ := Cond.exactly_spec h2
  exact ⟨a, vk_R.of h1 ha⟩
set_option maxRecDepth 100000 in
theorem tBA_start {s : State} {A : Array Value} (hts : ∀ w ∈ lw_tbl, w.before A s = true) (hgv : (Jvm.Cond.and given_1 narrow_1).before A s = true) : tBA (aL s) s := by
  have hq := flat_of_before _ hgv
  refine ⟨fun w hw => va_Nw.of (List.all_eq_true.mp (show bwL.all Cond.onTables = true by decide +kernel) w hw) (hts w (bwL_in w hw)), vkR_start (hts (.stringRef RX0 116 "out of range") (by decide +kernel)) (hq (.exactly (.string RX0 116) "java/lang/String") (by decide +kernel)), vkR_start (hts (.stringRef RX0 69 "there are 16 goods already") (by decide +kernel)) (hq (.exactly (.string RX0 69) "java/lang/String") (by decide +kernel)), vkR_start (hts (.stringRef RX0 119 "the subsidiary class is the class itself") (by decide +kernel)) (hq (.exactly (.string RX0 119) "java/lang/String") (by decide +kernel)), vkR_start (hts (.stringRef RX0 123 "no such goods") (by decide +kernel)) (hq (.exactly (.string RX0 123) "java/lang/String") (by decide +kernel)), vkR_start (hts (.stringRef RX0 126 "both are the same goods") (by decide +kernel)) (hq (.exactly (.string RX0 126) "java/lang/String") (by decide +kernel)), ?_, ?_⟩
  · exact vx_Zqof (hts (.laysStatic Bundle.tN "UNASSIGNED_STACK" Bundle.steD) (by decide +kernel)) (hts (.initialized Bundle.tN) (by decide +kernel)) (hq (.isRef (.static Bundle.tN "UNASSIGNED_STACK" Bundle.steD)) (by decide +kernel)) (fun _ h => Nat.not_le.mpr h)
  · exact vx_Zqof (hts (.laysStatic Bundle.tN "SUPPRESSED_SENTINEL" Bundle.listD) (by decide +kernel)) (hts (.initialized Bundle.tN) (by decide +kernel)) (hq (.isRef (.static Bundle.tN "SUPPRESSED_SENTINEL" Bundle.listD)) (by decide +kernel)) (fun _ h => Nat.not_le.mpr h)
set_option maxRecDepth 100000 in
theorem nC_start {s : State} {A : Array Value} (hgv : (Jvm.Cond.and given_1 narrow_1).before A s = true) : nC s := by
  have hq := flat_of_before _ hgv
  exact ⟨va_Nc.of (hq (.not (.castable eIS eIA)) (by decide +kernel)), va_Nc.of (hq (.not (.castable eIA eIO)) (by decide +kernel))⟩
