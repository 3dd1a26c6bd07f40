/-! the start: what the constructors leave is the empty house for both -/
def Gz : Nat → Nat → Int := fun _ _ => 0
def GF : Nat → Nat → Int := up (up (putRow Gz 25 0 (v6 1000 1 0 1 1 0)) 24 2 (0 + 1)) 26 17 (-1)
def GM : Nat → Nat → Int := up (up (up (up (up (up (up (up GF 63 10 1000) 63 11 1) 63 13 1) 63 14 1) 125 0 (-1)) 125 1 (-1)) 125 2 (-1)) 125 3 (-1)
def ρ0 : RR := (fun _ => -1, fun _ => 0, fun _ => 0)
def a0 : AB := (fun _ _ => 0, fun _ => h00, fun _ => (0, 0), (0, 0, 0), ρ0)
theorem GM_z {i : Nat} (h1 : i ≠ 24) (h2 : i ≠ 25) (h3 : i ≠ 26) (h4 : i ≠ 63) (h5 : i ≠ 125) (j : Nat) : GM i j = 0 := by
  unfold GM GF
  rw [up_cell h5, up_cell h5, up_cell h5, up_cell h5, up_cell h4, up_cell h4, up_cell h4, up_cell h4, up_cell h3, up_cell h1, putRow_o h2]
  rfl
theorem ρ0_ok : okRw ρ0 := fun x _ => show -1 ≤ (-1 : Int) ∧ (-1 : Int) ≤ 3 ∧ 0 ≤ (0 : Int) ∧ (0 : Int) ≤ 30 by decide
theorem h00_wf : Hwf h00 := by
  refine ⟨?_, ?_, ?_, ?_, ?_, ?_, ?_, ?_, ?_, ?_, ?_⟩
  · decide
  · exact fun p hp => absurd hp (Nat.not_lt_zero _)
  · exact fun p hp => absurd hp (Nat.not_lt_zero _)
  · exact fun p hp => absurd hp (Nat.not_lt_zero _)
  · exact fun p hp => absurd hp (Nat.not_lt_zero _)
  · exact fun p hp => absurd hp (Nat.not_lt_zero _)
  · exact fun p hp => absurd hp (Nat.not_lt_zero _)
  · exact fun p hp => absurd hp (Nat.not_lt_zero _)
  · exact fun p hp => absurd hp (Nat.not_lt_zero _)
  · exact fun p hp => absurd hp (Nat.not_lt_zero _)
  · decide
theorem fRep0 : fRep h00 GM := by
  refine ⟨rfl, fun T hT => ?_⟩
  match T, hT with
  | 0, _ => exact ⟨rfl, fun r hr => absurd hr (Nat.not_lt_zero _)⟩
  | 1, _ => exact ⟨rfl, fun r hr => absurd hr (Nat.not_lt_zero _)⟩
  | 2, _ => exact ⟨rfl, fun r hr => absurd hr (Nat.not_lt_zero _)⟩
  | 3, _ => exact ⟨rfl, fun r hr => absurd hr (Nat.not_lt_zero _)⟩
  | 4, _ => exact ⟨rfl, fun r hr => absurd hr (Nat.not_lt_zero _)⟩
  | 5, _ => exact ⟨rfl, fun r hr => absurd hr (Nat.not_lt_zero _)⟩
  | 6, _ => exact ⟨rfl, fun r hr => absurd hr (Nat.not_lt_zero _)⟩
  | 7, _ => exact ⟨rfl, fun r hr => absurd hr (Nat.not_lt_zero _)⟩
  | 8, _ => exact ⟨rfl, fun r hr => absurd hr (Nat.not_lt_zero _)⟩
  | 9, _ =>
    refine ⟨rfl, fun r hr c hc => ?_⟩
    have hr : r < 1 := hr
    obtain rfl : r = 0 := by omega
    match c, hc with
    | 0, _ => rfl
    | 1, _ => rfl
    | 2, _ => rfl
    | 3, _ => rfl
    | 4, _ => rfl
    | 5, _ => rfl
  | T + 10, hT => omega
theorem zc0 : ZC a0 0 GM := by
  refine ⟨⟨0, by decide, rfl, rfl, rfl, ⟨⟨by decide, by decide, by decide⟩, fun i _ => ⟨h00_wf, rfl⟩, fun i hi => absurd hi (Nat.not_lt_zero _)⟩, fRep0, fun i h1 h2 => absurd h2 (Nat.not_lt_zero _), fun i h1 h2 => absurd h2 (Nat.not_lt_zero _)⟩, ⟨⟨fRep0, ⟨by decide, fun h => absurd h (by decide)⟩, ⟨by decide, fun j hj => ?_, fun fi b e t y _ _ _ _ _ h => ?_⟩⟩, fun m q _ _ => ?_⟩, ⟨ρ0_ok, fun x hx => ⟨?_, fun h => absurd rfl h, GM_z (by decide) (by decide) (by decide) (by decide) (by decide) x⟩, fun j _ => GM_z (by decide) (by decide) (by decide) (by decide) (by decide) j⟩, by decide⟩
  · rw [GM_z (by decide) (by decide) (by decide) (by decide) (by decide) j, GM_z (by decide) (by decide) (by decide) (by decide) (by decide) 6]; decide
  · rw [GM_z (i := tu_stamps) (by decide) (by decide) (by decide) (by decide) (by decide), GM_z (i := o_Ac) (by decide) (by decide) (by decide) (by decide) (by decide) 6] at h
    omega
  · unfold g8
    rw [GM_z (by decide) (by decide) (by decide) (by decide) (by decide)]; decide
  · rw [GM_z (by decide) (by decide) (by decide) (by decide) (by decide) 3, xb_zero]; rfl
theorem zm0 : ZM a0 0 GM := by
  refine ⟨⟨⟨⟨by decide, by decide, by decide⟩, rfl, fun i _ => h00_wf, fun i hi => absurd hi (Nat.not_lt_zero _)⟩, fun i hi => absurd hi (Nat.not_lt_zero _), ⟨by decide, ?_, ?_, ?_, ?_, ?_, ?_, ?_, ?_, ?_, by decide⟩, rfl, rfl, rfl⟩, ⟨ρ0_ok, fun x hx => ⟨?_, GM_z (by decide) (by decide) (by decide) (by decide) (by decide) x⟩, fun j _ => GM_z (by decide) (by decide) (by decide) (by decide) (by decide) j⟩, by decide⟩
  · exact fun p hp => absurd hp (Nat.not_lt_zero _)
  · exact fun p hp => absurd hp (Nat.not_lt_zero _)
  · exact fun p hp => absurd hp (Nat.not_lt_zero _)
  · exact fun p hp => absurd hp (Nat.not_lt_zero _)
  · exact fun p hp => absurd hp (Nat.not_lt_zero _)
  · exact fun p hp => absurd hp (Nat.not_lt_zero _)
  · exact fun p hp => absurd hp (Nat.not_lt_zero _)
  · exact fun p hp => absurd hp (Nat.not_lt_zero _)
  · exact fun p hp => absurd hp (Nat.not_lt_zero _)
  · match x, hx with
    | 0, _ => rfl
    | 1, _ => rfl
    | 2, _ => rfl
    | 3, _ => rfl
    | x + 4, hx => omega
