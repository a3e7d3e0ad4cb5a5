theorem ls_str {args : Array Value} {s : State} (hts : ∀ w ∈ lw_tbl, w.before args s = true) : ∀ q ∈ gx_S, ∃ sa, vk_R RX6 q.1 q.2 sa s := fun q hq => by
  obtain ⟨cC, kC, hfc, -⟩ := Cond.instantiable_spec (hts (.instantiable RX6 7) (by decide +kernel))
  have h0 := hts _ (ls_s q hq)
  have h1 : (Cond.stringRef RX6 q.1 q.2).before #[] s = true := by
    first
    | exact h0
    | (simp only [Cond.before, Cond.holds, Cond.value] at h0 ⊢; exact h0)
  obtain ⟨k, cf, i, a, -, -, -, -, -, he⟩ := Cond.stringRef_spec hfc h1
  exact ⟨a, h1, he⟩
theorem ls_gxT {args : Array Value} {s : State} (hts : ∀ w ∈ lw_tbl, w.before args s = true) (hgv : (Jvm.Cond.and given_1 narrow_1).before args s = true) : gx_T (fun q : Nat => s.heap.size ≤ q) s s.heap := ls_gx hts hgv (ls_str hts)
