/-! ===== what the throw in mean wants of the machine's start ===== -/
def mxA : String := "java/lang/ArithmeticException"
def mxN : List String := ["java/lang/RuntimeException", "java/lang/Exception"]
def mxT : String := "no run has ended well"
def mxB : List Cond := [.castable mxA mxA, .declares (Bundle.initS "java/lang/RuntimeException"), .declares (Bundle.initS "java/lang/Exception"), .declares (Bundle.initS Bundle.tN)]
def mx_E (base : Nat) (U : State) : Prop := va_Nw (.castable mxA mxA) U ∧ va_Nw (.declares (Bundle.initS "java/lang/RuntimeException")) U ∧ va_Nw (.declares (Bundle.initS "java/lang/Exception")) U ∧ va_Nw (.declares (Bundle.initS Bundle.tN)) U ∧ (∃ sa, vk_R RX6 155 mxT sa U) ∧ vx_Zq Bundle.tN "UNASSIGNED_STACK" Bundle.steD (fun q : Nat => base ≤ q) U U.heap ∧ vx_Zq Bundle.tN "SUPPRESSED_SENTINEL" Bundle.listD (fun q : Nat => base ≤ q) U U.heap
theorem mx_E.warm {base : Nat} {s U : State} (hW : s.WarmedH U.vm) (hq : ∀ a : Nat, a < s.heap.size → ¬ base ≤ a → U.heap[a]? = s.heap[a]?) (h : mx_E base s) : mx_E base U := by
  obtain ⟨h1, h2, h3, h4, ⟨sa, h5⟩, h6, h7⟩ := h
  exact ⟨va_Nw.warmC hW h1, va_Nw.warmD hW h2, va_Nw.warmD hW h3, va_Nw.warmD hW h4, ⟨sa, vk_R.warm hW h5⟩, (vx_Zq.moved hW.alike h6).kept hq, (vx_Zq.moved hW.alike h7).kept hq⟩
theorem mx_E.same {base : Nat} {s U : State} (hv : s.vm = U.vm) (hh : U.heap = s.heap) (h : mx_E base s) : mx_E base U := by
  obtain ⟨h1, h2, h3, h4, ⟨sa, h5⟩, h6, h7⟩ := h
  have ha : s.vm.Alike U.vm := by rw [hv]; exact Vm.Alike.refl _
  exact ⟨va_Nw.same rfl hv h1, va_Nw.same rfl hv h2, va_Nw.same rfl hv h3, va_Nw.same rfl hv h4, ⟨sa, vk_R.same hv.symm h5⟩, (vx_Zq.moved ha h6).kept (fun a _ _ => by rw [hh]), (vx_Zq.moved ha h7).kept (fun a _ _ => by rw [hh])⟩
theorem mx_blind {D : gD} {base : Nat} {G : gS} {av : List Value} : FrameBlind (va_Pc av (fun U => gH D base G U.heap ∧ gKt D U ∧ mx_E base U)) := fun a U g mk q => ⟨q.1, q.2.1, gKt.same (s := U) (U := U.calling g mk a) rfl q.2.2.1, mx_E.same (s := U) (U := U.calling g mk a) rfl rfl q.2.2.2⟩
theorem mx_in : ((vx_atS RX6 157 mxA mxN).filter goodWord).all (fun w => decide (w ∈ lw_tbl)) = true := by decide +kernel
theorem mx_out : ∀ w ∈ (vx_atS RX6 157 mxA mxN).filter (fun w => !goodWord w), w ∈ mxB := by decide +kernel
theorem mx_ot : ∀ w ∈ Cond.classLink RX6 153 mxA :: Cond.initialized mxA :: vx_atS RX6 157 mxA mxN, vx_ot w = true := by decide +kernel
theorem mx_at {args : Array Value} {s : State} {base : Nat} (ht : ∀ w ∈ gT, w.before args s = true) (h : mx_E base s) : ∀ w ∈ vx_atS RX6 157 mxA mxN, w.before args s = true := by
  refine vx_hat (B := mxB) (fun w hw => ht w (List.mem_filter.mpr ⟨of_decide_eq_true (List.all_eq_true.mp mx_in w hw), (List.mem_filter.mp hw).2⟩)) mx_out ?_
  exact vx_c (va_Nw.use rfl h.1) (vx_c (va_Nw.use rfl h.2.1) (vx_c (va_Nw.use rfl h.2.2.1) (vx_c (va_Nw.use rfl h.2.2.2.1) vx_n)))
theorem gH.more {D : gD} {base : Nat} {G : gS} {H H1 : Heap} (h : gH D base G H) (hz : H.size ≤ H1.size) (hq : ∀ q : Nat, q < H.size → H1[q]? = H[q]?) : gH D base (gmore (H1.size - H.size) G) H1 := by
  obtain ⟨h1, h2, h3, h4⟩ := h
  have e1 : gsz (gmore (H1.size - H.size) G) = gsz G + (H1.size - H.size) := rfl
  refine ⟨by rw [e1, ← h1]; omega, by rw [e1]; omega, fun a => ?_, fun a ha => ?_⟩
  · by_cases ha : a < H.size
    · exact (h3 a).kept (hq a ha)
    · have h0 : (gsh G a).1 = 0 := by
        by_cases h0 : (gsh G a).1 = 0
        · exact h0
        · have := (h4 a h0).2; omega
      have h0' : (gsh (gmore (H1.size - H.size) G) a).1 = 0 := h0
      exact ⟨fun q => (by rw [h0'] at q; cases q), fun q => (by rw [h0'] at q; cases q)⟩
  · have := h4 a ha
    rw [e1]; exact ⟨this.1, by omega⟩
theorem mx_w1 : Cond.classLink RX6 153 mxA ∈ gT := List.mem_filter.mpr ⟨by decide +kernel, by decide +kernel⟩
theorem mx_w2 : Cond.initialized mxA ∈ gT := List.mem_filter.mpr ⟨by decide +kernel, by decide +kernel⟩
theorem mx_w3 : Cond.classLink RL 13 mxA ∈ gT := List.mem_filter.mpr ⟨by decide +kernel, by decide +kernel⟩
theorem mx_w4 : Cond.codeWith yL_mean cL_mean 3 (some .int) [(0, 8, 11, 13)] ∈ gT := List.mem_filter.mpr ⟨by decide +kernel, by decide +kernel⟩
theorem mx_w5 : Cond.static yL_mean ∈ gT := List.mem_filter.mpr ⟨by decide +kernel, by decide +kernel⟩
theorem mx_w6 : Cond.initialized RL ∈ gT := List.mem_filter.mpr ⟨by decide +kernel, by decide +kernel⟩
/-- at the law's start -/
theorem mx_E0 {s : State} {b : Nat} (hts : ∀ w ∈ lw_tbl, w.before #[Value.ref b] s = true) (hgv : (Jvm.Cond.and given_1 narrow_1).before #[Value.ref b] s = true) : mx_E s.heap.size s := by
  have hg := flat_of_before _ hgv
  have hU : (Cond.isRef (.static Bundle.tN "UNASSIGNED_STACK" Bundle.steD)).before #[Value.ref b] s = true := hg _ (by decide +kernel)
  have hN : (Cond.isRef (.static Bundle.tN "SUPPRESSED_SENTINEL" Bundle.listD)).before #[Value.ref b] s = true := hg _ (by decide +kernel)
  have hx : (Cond.exactly (.string RX6 155) "java/lang/String").before #[Value.ref b] s = true := hg _ (by decide +kernel)
  obtain ⟨sa, -, -, -, hsa, -⟩ := Cond.exactly_spec (args := #[Value.ref b]) (first := s) (o := none) (s := s) (idx := []) (t := .string RX6 155) (cls := "java/lang/String") hx
  have hi : (Cond.initialized Bundle.tN).before #[Value.ref b] s = true := hts _ (by decide +kernel)
  exact ⟨va_Nw.of rfl (hts _ (by decide +kernel)), va_Nw.of rfl (hts _ (by decide +kernel)), va_Nw.of rfl (hts _ (by decide +kernel)), va_Nw.of rfl (hts _ (by decide +kernel)), ⟨sa, vk_R.of (hts (.stringRef RX6 155 mxT) (by decide +kernel)) hsa⟩,
    vx_Zqof (hts (.laysStatic Bundle.tN "UNASSIGNED_STACK" Bundle.steD) (by decide +kernel)) hi hU (fun a h1 h2 => absurd h1 (Nat.not_lt.mpr h2)), vx_Zqof (hts (.laysStatic Bundle.tN "SUPPRESSED_SENTINEL" Bundle.listD) (by decide +kernel)) hi hN (fun a h1 h2 => absurd h1 (Nat.not_lt.mpr h2))⟩
