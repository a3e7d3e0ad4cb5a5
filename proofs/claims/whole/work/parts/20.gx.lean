def wsX6_begin : List Cond := .code yX6_begin cX6_begin 2 none :: ((wsX6_begin_r1 ++ (wsX6_begin_r2 ++ wsX6_begin_r3)) ++ wsJxde1cd0 ++ wsX60 ++ wsX30 ++ wsX00 ++ wsX10 ++ wsX40 ++ wsX20 ++ (vx_atS RX6 64 "java/lang/IllegalArgumentException" ["java/lang/RuntimeException", "java/lang/Exception"]).filter goodWord)
theorem ggX6_begin_X6_startAnew : GoodIn wsX6_begin wsX6_startAnew := goodIn_r _ [10, 11, 12, 13, 14, 15, 16, 17, 18, 19, 20, 21, 22, 23, 24, 25, 26, 27, 28, 29, 30, 31, 32, 33, 9, 34, 35, 36, 37, 38, 39, 40, 41, 42, 43, 44, 45, 46, 47, 48, 49, 50, 51, 52, 53, 54, 55, 56, 57, 58, 59, 60, 61, 62, 63, 64, 65, 66, 67, 74, 75, 76, 77, 78, 79, 80, 81, 82, 83, 84, 85, 86, 87, 88, 89, 90, 91, 92, 93, 94, 95, 96, 97, 98, 99, 100, 101, 102, 103, 104, 105, 106, 107, 108, 109, 110, 111, 112, 113, 114, 115, 116, 117, 118, 119, 120, 121, 122, 123, 124] rfl (by decide +kernel)
theorem gX6_begin_X6_startAnew : GoodIn wsX6_begin (wsV RX6 49 RX6 yX6_startAnew wsX6_startAnew) := goodIn_app (goodIn_of _ (by decide +kernel)) ggX6_begin_X6_startAnew
/-! the throwing methods of SignalProofs: the words of a throw, and what stands beside the world for it -/
abbrev gx_A (q : Nat) : List Cond := match q with
  | 1 => vx_atS RX6 57 RJxde1cd ["java/lang/RuntimeException", "java/lang/Exception"]
  | 2 => vx_atS RX6 64 "java/lang/IllegalArgumentException" ["java/lang/RuntimeException", "java/lang/Exception"]
  | _ => vx_atS RX6 73 RJx00060 ["java/lang/IndexOutOfBoundsException", "java/lang/RuntimeException", "java/lang/Exception"]
def gx_E (q : Nat) : String := match q with
  | 1 => RJxde1cd
  | 2 => "java/lang/IllegalArgumentException"
  | _ => RJx00060
/-- the words of a throw that a call's words can't hold -/
def gx_BD : List MethodName := [Bundle.initS "java/lang/IndexOutOfBoundsException", Bundle.initS "java/lang/RuntimeException", Bundle.initS "java/lang/Exception", Bundle.initS "java/lang/Throwable"]
def gx_BC : List String := [RJx00060, RJxde1cd, "java/lang/IllegalArgumentException"]
def gx_B : List Cond := gx_BD.map (fun x => Cond.declares x) ++ gx_BC.map (fun x => Cond.castable x x)
def gx_S : List (Nat × String) := [(55, "groups are below 0"), (62, "groups are not 1 .. 6"), (71, "the first group is none"), (74, "the second group is none"), (83, "no such group")]
theorem gx_in1 : ∀ w ∈ (gx_A 1).filter (fun w => !goodWord w), w ∈ gx_B := by decide +kernel
theorem gx_in2 : ∀ w ∈ (gx_A 2).filter (fun w => !goodWord w), w ∈ gx_B := by decide +kernel
theorem gx_in3 : ∀ w ∈ (gx_A 3).filter (fun w => !goodWord w), w ∈ gx_B := by decide +kernel
def gx_T (A : Nat → Prop) (U : State) (H : Heap) : Prop := (∀ x ∈ gx_BD, va_Nw (.declares x) U) ∧ (∀ x ∈ gx_BC, va_Nw (.castable x x) U) ∧ (∀ q ∈ gx_S, ∃ sa, vk_R RX6 q.1 q.2 sa U) ∧ vx_Zq Bundle.tN "UNASSIGNED_STACK" Bundle.steD A U H ∧ vx_Zq Bundle.tN "SUPPRESSED_SENTINEL" Bundle.listD A U H
theorem gx_T.same {A : Nat → Prop} {u U : State} {H : Heap} (h : u.vm = U.vm) (hT : gx_T A u H) : gx_T A U H :=
  ⟨fun x hx => va_Nw.same rfl h (hT.1 x hx), fun x hx => va_Nw.same rfl h (hT.2.1 x hx), fun q hq => by
    obtain ⟨sa, h1⟩ := hT.2.2.1 q hq
    exact ⟨sa, vk_R.same h.symm h1⟩, vx_Zq.moved (by rw [h]; exact Vm.Alike.refl _) hT.2.2.2.1, vx_Zq.moved (by rw [h]; exact Vm.Alike.refl _) hT.2.2.2.2⟩
theorem gx_T.warm {A : Nat → Prop} {s U : State} {H : Heap} (hW : s.WarmedH U.vm) (hT : gx_T A s H) : gx_T A U H :=
  ⟨fun x hx => va_Nw.warmD hW (hT.1 x hx), fun x hx => va_Nw.warmC hW (hT.2.1 x hx), fun q hq => by
    obtain ⟨sa, h1⟩ := hT.2.2.1 q hq
    exact ⟨sa, vk_R.warm hW h1⟩, vx_Zq.moved hW.alike hT.2.2.2.1, vx_Zq.moved hW.alike hT.2.2.2.2⟩
theorem gx_T.kept {A : Nat → Prop} {U : State} {H H1 : Heap} (hT : gx_T A U H) (hq : ∀ a : Nat, a < H.size → ¬ A a → H1[a]? = H[a]?) : gx_T A U H1 :=
  ⟨hT.1, hT.2.1, hT.2.2.1, vx_Zq.kept hT.2.2.2.1 hq, vx_Zq.kept hT.2.2.2.2 hq⟩
theorem gx_T.narrow {A B : Nat → Prop} {U : State} {H : Heap} (hT : gx_T A U H) (hAB : ∀ q, B q → A q) : gx_T B U H :=
  ⟨hT.1, hT.2.1, hT.2.2.1, vx_Zq.narrow hT.2.2.2.1 hAB, vx_Zq.narrow hT.2.2.2.2 hAB⟩
theorem gx_T.b {A : Nat → Prop} {U : State} {H : Heap} {args : Array Value} (hT : gx_T A U H) : ∀ w ∈ gx_B, w.before args U = true := fun w hw => by
  rcases List.mem_append.mp hw with h | h
  · obtain ⟨x, hx, rfl⟩ := List.mem_map.mp h
    exact va_Nw.use rfl (hT.1 x hx)
  · obtain ⟨x, hx, rfl⟩ := List.mem_map.mp h
    exact va_Nw.use rfl (hT.2.1 x hx)
theorem gx_good {big big2 ws : List Cond} (h : GoodIn big ws) : GoodIn (big ++ big2) ws := fun w hw => ⟨List.mem_append_left _ (h w hw).1, (h w hw).2⟩
def gx_tx55 : String := "groups are below 0"
def gx_tx62 : String := "groups are not 1 .. 6"
def gx_tx71 : String := "the first group is none"
def gx_tx74 : String := "the second group is none"
def gx_tx83 : String := "no such group"
