/-! ===== the cells of the new stage are what the shape says ===== -/
section NC
variable {S : TS} {in1 in2 : Option Nat} {pa lg : Nat} {st c1 c2 : Nat → Nat} {uu : Nat → Nat → Nat} {fl k : Nat} {yc : Nat → ClassId} {e0 : Nat} {u : Nat → Nat → Nat} {pl' : Nat → Nat → Int32} {cv1 cv2 it : Value}
theorem ns_new (hn : zn S ≤ 11) (hf : fl < 2) (hu : ∀ j, uu fl j = u j 0) (hv1 : zch (nS S in1 in2 pa lg st c1 c2 uu) 0 fl (zn S) = cv1) (hv2 : zch (nS S in1 in2 pa lg st c1 c2 uu) 1 fl (zn S) = cv2) (hit : Value.int (nI fl) = it) {kd : Nat} (hkd : kd < 4) (hd : dm (nS S in1 in2 pa lg st c1 c2 uu) kd fl k) (hnew : ¬ dm S kd fl k) {e : Nat × List Value} (he : cel (nS S in1 in2 pa lg st c1 c2 uu) G0 kd fl k (F0p pl' kd fl k) = .inr e) :
    blo (sblk yc e0 u (st fl) pa lg cv1 cv2 it) (stag fl (zn S)) kd fl k (zg (nS S in1 in2 pa lg st c1 c2 uu) kd fl k) e := by
  match kd, hkd with
  | 0, _ =>
    obtain ⟨s, hs, rfl⟩ : ∃ s, s < 3 ∧ k = 3 * zn S + s := ⟨k - 3 * zn S, by have h1 : k < 3 * (zn S + 1) := hd.2; omega, by have h2 : ¬ k < 3 * zn S := fun h => hnew ⟨hf, h⟩; omega⟩
    have he' : e = _ := (Sum.inr.inj he).symm
    have q1 := @ns_1n S in1 in2 pa lg st c1 c2 uu fl s
    have q2 := @ns_rsn S in1 in2 pa lg st c1 c2 uu fl 2 s hn (by decide) hf hs
    have q3 := @ns_rsn S in1 in2 pa lg st c1 c2 uu fl 3 s hn (by decide) hf hs
    rw [hu] at q1 q2 q3
    rw [he', q1, q2, q3, ns_0n, hu]
    match s, hs with
    | 0, _ => exact ⟨7, rfl, rfl⟩
    | 1, _ => exact ⟨17, rfl, rfl⟩
    | 2, _ => exact ⟨27, rfl, rfl⟩
  | 1, _ =>
    obtain ⟨s, hs, rfl⟩ : ∃ s, s < 3 ∧ k = 3 * zn S + s := ⟨k - 3 * zn S, by have h1 : k < 3 * (zn S + 1) := hd.2; omega, by have h2 : ¬ k < 3 * zn S := fun h => hnew ⟨hf, h⟩; omega⟩
    have he' : e = _ := (Sum.inr.inj he).symm
    have q2 := @ns_rsn S in1 in2 pa lg st c1 c2 uu fl 0 s hn (by decide) hf hs
    have q3 := @ns_rsn S in1 in2 pa lg st c1 c2 uu fl 1 s hn (by decide) hf hs
    rw [hu] at q2 q3
    rw [he', q2, q3, ns_1n, hu]
    match s, hs with
    | 0, _ => exact ⟨8, rfl, rfl⟩
    | 1, _ => exact ⟨18, rfl, rfl⟩
    | 2, _ => exact ⟨28, rfl, rfl⟩
  | 2, _ =>
    obtain rfl : k = zn S := by
      have h1 : k < zn S + 1 := hd.2
      have h2 : ¬ k < zn S := fun h => hnew ⟨hf, h⟩
      omega
    have he' : e = _ := (Sum.inr.inj he).symm
    have q1 : zg (nS S in1 in2 pa lg st c1 c2 uu) 0 fl (3 * zn S) = u 2 0 := (ns_0n (s := 0)).trans (hu 2)
    have q2 : zg (nS S in1 in2 pa lg st c1 c2 uu) 0 fl (3 * zn S + (G0 fl (zn S)).1) = u 3 0 := (ns_0n (s := 1)).trans (hu 3)
    have q3 : zg (nS S in1 in2 pa lg st c1 c2 uu) 0 fl (3 * zn S + (G0 fl (zn S)).2) = u 4 0 := (ns_0n (s := 2)).trans (hu 4)
    rw [he', ns_8n, ns_rln hn, hv1, hv2, hit, ns_3n, ns_ron hn hf, q1, q2, q3, ns_2n, hu, hu]
    exact ⟨0, rfl, rfl⟩
  | 3, _ =>
    obtain rfl : k = zn S := by
      have h1 : k < zn S + 1 := hd.2
      have h2 : ¬ k < zn S := fun h => hnew ⟨hf, h⟩
      omega
    have he' : e = _ := (Sum.inr.inj he).symm
    rw [he', ns_rin hn hf, ns_l1n, ns_3n, hu, hu, hu]
    exact ⟨1, rfl, rfl⟩
theorem ns_newr {w1 w2 w3 : Nat → Value} (hn : zn S ≤ 11) {i : Nat} (hd : dr (nS S in1 in2 pa lg st c1 c2 uu) i) : (dr S i ∧ zr (nS S in1 in2 pa lg st c1 c2 uu) i = zr S i) ∨ (i = rl (zn S) ∧ zr (nS S in1 in2 pa lg st c1 c2 uu) i = lg) ∨
    ∃ f, f < 2 ∧ ∀ (v : Nat → Nat → Nat), (∀ j, uu f j = v j 0) → blr yc (sblk yc e0 v (st f) pa lg (w1 f) (w2 f) (w3 f)) (stag f (zn S)) i (zr (nS S in1 in2 pa lg st c1 c2 uu) i) := by
  have hnn : zn (nS S in1 in2 pa lg st c1 c2 uu) = zn S + 1 := rfl
  unfold dr at hd
  rw [hnn] at hd
  by_cases c1' : i < 288
  · obtain ⟨x, f, q, hx, hf, hi⟩ : ∃ x f q, x < 4 ∧ f < 2 ∧ i = rs x f q := ⟨i % 4, (i / 4) % 2, i / 8, by omega, by omega, by unfold rs; omega⟩
    have hq : q < 3 * (zn S + 1) := by
      have : i / 8 = q := by rw [hi]; unfold rs; omega
      omega
    by_cases h3 : q < 3 * zn S
    · left
      refine ⟨?_, ?_⟩
      · rw [hi]; exact dr_s (by omega) hx hf h3
      · rw [hi]; exact ns_rs hn hx hf h3
    · right; right
      obtain ⟨s, hs, rfl⟩ : ∃ s, s < 3 ∧ q = 3 * zn S + s := ⟨q - 3 * zn S, by omega, by omega⟩
      refine ⟨f, hf, fun v hv => ?_⟩
      rw [hi, ns_rsn hn hx hf hs, hv]
      match x, hx, s, hs with
      | 0, _, 0, _ => exact ⟨9, _, rfl, rfl, rfl, rfl⟩
      | 1, _, 0, _ => exact ⟨11, _, rfl, rfl, rfl, rfl⟩
      | 2, _, 0, _ => exact ⟨13, _, rfl, rfl, rfl, rfl⟩
      | 3, _, 0, _ => exact ⟨15, _, rfl, rfl, rfl, rfl⟩
      | 0, _, 1, _ => exact ⟨19, _, rfl, rfl, rfl, rfl⟩
      | 1, _, 1, _ => exact ⟨21, _, rfl, rfl, rfl, rfl⟩
      | 2, _, 1, _ => exact ⟨23, _, rfl, rfl, rfl, rfl⟩
      | 3, _, 1, _ => exact ⟨25, _, rfl, rfl, rfl, rfl⟩
      | 0, _, 2, _ => exact ⟨29, _, rfl, rfl, rfl, rfl⟩
      | 1, _, 2, _ => exact ⟨31, _, rfl, rfl, rfl, rfl⟩
      | 2, _, 2, _ => exact ⟨33, _, rfl, rfl, rfl, rfl⟩
      | 3, _, 2, _ => exact ⟨35, _, rfl, rfl, rfl, rfl⟩
  · by_cases c2' : i < 312
    · obtain ⟨f, q, hf, hi⟩ : ∃ f q, f < 2 ∧ i = ri f q := ⟨(i - 288) % 2, (i - 288) / 2, by omega, by unfold ri; omega⟩
      have hq : q < zn S + 1 := by
        have : (i - 288) / 2 = q := by rw [hi]; unfold ri; omega
        omega
      by_cases h3 : q < zn S
      · left
        exact ⟨by rw [hi]; exact dr_i (by omega) hf h3, by rw [hi]; exact ns_ri hn hf h3⟩
      · obtain rfl : q = zn S := by omega
        right; right
        refine ⟨f, hf, fun v hv => ?_⟩
        rw [hi, ns_rin hn hf, hv]
        exact ⟨2, _, rfl, rfl, rfl, rfl⟩
    · by_cases c3' : i < 336
      · obtain ⟨f, q, hf, hi⟩ : ∃ f q, f < 2 ∧ i = ro f q := ⟨(i - 312) % 2, (i - 312) / 2, by omega, by unfold ro; omega⟩
        have hq : q < zn S + 1 := by
          have : (i - 312) / 2 = q := by rw [hi]; unfold ro; omega
          omega
        by_cases h3 : q < zn S
        · left
          exact ⟨by rw [hi]; exact dr_o (by omega) hf h3, by rw [hi]; exact ns_ro hn hf h3⟩
        · obtain rfl : q = zn S := by omega
          right; right
          refine ⟨f, hf, fun v hv => ?_⟩
          rw [hi, ns_ron hn hf, hv]
          exact ⟨5, _, rfl, rfl, rfl, rfl⟩
      · obtain ⟨q, hi⟩ : ∃ q, i = rl q := ⟨i - 336, by unfold rl; omega⟩
        have hq : q < zn S + 1 := by
          have : i - 336 = q := by rw [hi]; unfold rl; omega
          omega
        by_cases h3 : q < zn S
        · left
          exact ⟨by rw [hi]; exact dr_l (by omega) h3, by rw [hi]; exact ns_rl hn h3⟩
        · obtain rfl : q = zn S := by omega
          right; left
          exact ⟨hi, by rw [hi]; exact ns_rln hn⟩
end NC
