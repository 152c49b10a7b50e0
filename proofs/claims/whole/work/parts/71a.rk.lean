/-! ===== a contract holds at every higher rank ===== -/
theorem rm_up {s : State} {pl : Platform} {rk rk' mc ms : Nat} (hr : rk ≤ rk') (h : s.hasRoom pl (grm rk' mc ms) = true) : s.hasRoom pl (grm rk mc ms) = true := by
  have h40 : (grm rk mc ms).locals ≤ (grm rk' mc ms).locals := Nat.mul_le_mul_left 40 hr
  have h41 : (grm rk mc ms).frames ≤ (grm rk' mc ms).frames := hr
  have h42 : (grm rk mc ms).cells = (grm rk' mc ms).cells := rfl
  have h43 : (grm rk mc ms).slots = (grm rk' mc ms).slots := rfl
  generalize grm rk mc ms = r at *
  generalize grm rk' mc ms = r' at *
  simp only [Jvm.State.hasRoom, Bool.and_eq_true, decide_eq_true_eq] at h ⊢
  obtain ⟨⟨⟨⟨y, a, b, c, d, e⟩, f⟩, g⟩, i⟩ := h
  exact ⟨⟨⟨⟨by omega, by omega, by omega, by omega, by omega, e⟩, by omega⟩, by omega⟩, i⟩
theorem gMet_rk {l : Launch} {y : MethodName} {cc : ByteArray} {nL : Nat} {ret : Option FieldType} {rk rk' mc ms : Nat} {S : gSp} (hr : rk ≤ rk') (h : gMet l y cc nL ret rk mc ms S) : gMet l y cc nL ret rk' mc ms S := by
  intro D base av G post hS p e ha hc hk s m args below hf happ hP hK
  refine h D base av G post hS p e ha hc hk s m args below hf ?_ hP hK
  rw [Spec.appliesLoose_iff hf] at happ ⊢
  obtain ⟨h1, h2, h3, h4, h5, h6, h7, h8⟩ := happ
  exact ⟨h1, h2, h3, h4, h5, h6, rm_up hr h7, h8⟩
theorem gMet_ex {l : Launch} {y : MethodName} {cc : ByteArray} {nL : Nat} {ret : Option FieldType} {rk mc ms : Nat} {S : Nat → gSp} {N : Nat} (h : ∀ k, k ≤ N → gMet l y cc nL ret rk mc ms (S k)) : gMet l y cc nL ret rk mc ms (fun av G post => ∃ k, k ≤ N ∧ S k av G post) := fun D base av G post q => by obtain ⟨k, hk, hs⟩ := q; exact h k hk D base av G post hs
def S_X5_askU : gSp := fun av G post => ∃ k, k ≤ 10 ∧ S_X5_ask k av G post
theorem c_X5_askU (l : Launch) : gMet l yX5_ask cX5_ask 4 (some .int) 50 0 0 S_X5_askU := gMet_ex (fun k hk => gMet_rk (by omega) (c_X5_ask l k))
