theorem ls_d : ∀ x ∈ gx_BD, Cond.declares x ∈ lw_tbl := by decide +kernel
theorem ls_c : ∀ x ∈ gx_BC, Cond.castable x x ∈ lw_tbl := by decide +kernel
theorem ls_s : ∀ q ∈ gx_S, Cond.stringRef RX6 q.1 q.2 ∈ lw_tbl := by decide +kernel
theorem ls_l1 : Cond.laysStatic Bundle.tN "UNASSIGNED_STACK" Bundle.steD ∈ lw_tbl := by decide +kernel
theorem ls_l2 : Cond.laysStatic Bundle.tN "SUPPRESSED_SENTINEL" Bundle.listD ∈ lw_tbl := by decide +kernel
theorem ls_i : Cond.initialized Bundle.tN ∈ lw_tbl := by decide +kernel
theorem ls_n1 : Cond.methodLinkNest RX6 11 yX0_init "SignalProofs" ∈ lw_tbl := by decide +kernel
theorem ls_n2 : Cond.methodLinkNest RX6 18 yX3_init "SignalProofs" ∈ lw_tbl := by decide +kernel
theorem ls_n3 : Cond.methodLinkNest RX6 25 yX1_init "SignalProofs" ∈ lw_tbl := by decide +kernel
theorem ls_n4 : Cond.methodLinkNest RX4 21 yX5_init "SignalProofs" ∈ lw_tbl := by decide +kernel
theorem ls_g1 : ∀ w ∈ (gx_A 1).filter goodWord, w ∈ lw_tbl := by decide +kernel
theorem ls_g2 : ∀ w ∈ (gx_A 2).filter goodWord, w ∈ lw_tbl := by decide +kernel
theorem ls_g3 : ∀ w ∈ (gx_A 3).filter goodWord, w ∈ lw_tbl := by decide +kernel
theorem ls_gx {args : Array Value} {s : State} (hts : ∀ w ∈ lw_tbl, w.before args s = true) (hgv : (Jvm.Cond.and given_1 narrow_1).before args s = true) (hsr : ∀ q ∈ gx_S, ∃ sa, vk_R RX6 q.1 q.2 sa s) : gx_T (fun q : Nat => s.heap.size ≤ q) s s.heap := by
  have hs := flat_of_before _ hgv
  refine ⟨fun x hx => va_Nw.of rfl (hts _ (ls_d x hx)), fun x hx => va_Nw.of rfl (hts _ (ls_c x hx)), hsr, ?_, ?_⟩
  · exact vx_Zqof (hts _ ls_l1) (hts _ ls_i) (hs (.isRef (.static Bundle.tN "UNASSIGNED_STACK" Bundle.steD)) (by decide +kernel)) (fun a h1 h2 => Nat.not_le.mpr h1 h2)
  · exact vx_Zqof (hts _ ls_l2) (hts _ ls_i) (hs (.isRef (.static Bundle.tN "SUPPRESSED_SENTINEL" Bundle.listD)) (by decide +kernel)) (fun a h1 h2 => Nat.not_le.mpr h1 h2)
theorem ls_nc {args : Array Value} {s : State} (hgv : (Jvm.Cond.and given_1 narrow_1).before args s = true) : va_Nc "java/lang/IllegalArgumentException" RJxde1cd s :=
  va_Nc.of (flat_of_before _ hgv (Cond.not (.castable "java/lang/IllegalArgumentException" RJxde1cd)) (by decide +kernel))
