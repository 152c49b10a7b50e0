theorem lw_mean {p : Program} {l : Launch} {e : Env} {s : State} {m : MethodId} {below : List Frame} {meth : Method} {c : Code} {D : gD} {b L : Nat} {xs : Nat → Int32} (hlt : l.stackTraces = false) (C0 : lw_At p s m meth c b L xs) (B : gB p s m #[Value.ref b] meth c code 7 8 false D s.heap.size) : gCO p l e room_1 s m #[Value.ref b] below meth c D s.heap.size 7 (lw_Z below #[Value.ref b] s) code (100092, 2, 0, S_L_mean, 1, 6) := by
  obtain ⟨-, -, -, -, -, hts, -, -, -, hgv⟩ := C0
  have hE := mx_E0 hts hgv
  intro i cs ss pc lv st G hi hd hn hcat hroom hrcv K hK hS
  rcases hi with ⟨-, hj⟩ | ⟨j, rfl, hj, -⟩ | ⟨j, -, hj, -⟩
  · dsimp only at hj; omega
  · dsimp only at hd hn hcat hroom hrcv hS hj
    have hji : j = 92 := by omega
    subst hji
    intro H locs ls hH hS0 hl
    have hlen : (st.take 2).reverse.length = 2 := by rw [List.length_reverse]; exact hn
    have cw : vx_CSW room_1 s #[Value.ref b] RL 92 yL_mean cL_mean 3 (some .int) [(0, 8, 11, 13)] (.codeWith yL_mean cL_mean 3 (some .int) [(0, 8, 11, 13)] :: gT) (grm 7 1 6) 1 6 2 :=
      vx_cwSW (Ts := gT) 2 B.2.2.2.2.1 (gT_in (fun w hw => by
        rcases List.mem_append.mp hw with h | h
        · simp only [List.mem_cons, List.not_mem_nil, or_false] at h
          rcases h with h | h | h
          · rw [h]; exact ml_8_92
          · rw [h]; exact mx_w5
          · rw [h]; exact mx_w6
        · rcases List.mem_cons.mp h with h | h
          · rw [h]; exact mx_w4
          · exact h)) rfl rfl rfl ⟨by decide, by decide, by decide⟩ ⟨by decide, by decide⟩
    refine gcont (rest := st.drop 2) (mc := 1) (ms := 6) (vx_runSW (own := RL) (As := (st.take 2).reverse) ⟨B.1, B.2.1, B.2.2.1, B.2.2.2.1, B.2.2.2.2.1⟩ (mx_L hlt D s.heap.size (st.take 2).reverse G _ hS) cw ⟨mx_blind, fun U hU hW => ⟨rfl, by rw [hU]; exact hH, B.2.2.2.2.2.2.1.warm hW, hE.warm hW (fun a h1 h2 => by rw [hU]; exact hS0.2.1 a h1 h2)⟩⟩ rfl hlen hl.1 (gtake hn) ?_ hd hroom) hS0 hl (fun v G' hp => hK _ _ _ _ _ _ hp)
    show 2 * 0 + gcat (st.drop 2) ≤ 8
    omega
  · dsimp only at hj; omega
