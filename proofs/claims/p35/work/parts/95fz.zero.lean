/-! p35: THE FIRST STATE -/
def gz : Nat → Nat := fun i => if i = 1 then 1 else 0
theorem gz_0 {i : Nat} (h : i ≠ 1) : gz i = 0 := if_neg h
theorem gz_GA (l w : Nat) : GA gz l w = 0 := gz_0 (by omega)
theorem gz_src (l p : Nat) : src gz l p = 0 := gz_GA l _
theorem GV_z : GV gz := by
  have h0 := gz_0 (show 0 ≠ 1 by omega)
  have h1 : gz 1 = 1 := rfl
  refine ⟨by omega, by omega, fun l hl => ?_, fun l hl => absurd hl (by omega), fun l hl _ => ⟨gz_GA _ _, fun p _ => gz_src _ _⟩, fun i h1 h2 => gz_0 (by omega)⟩
  rw [gz_GA, gz_GA, gz_GA, gz_GA]
  exact ⟨by omega, by omega, by omega, by omega, fun p hp => by rw [gz_src]; omega⟩
theorem GW_z : GW gz 0 := by
  have h3 := gz_0 (show 3 ≠ 1 by omega)
  have h4 := gz_0 (show 4 ≠ 1 by omega)
  refine ⟨GV_z, fun l hl => by rw [gz_GA, gz_GA], ?_, by omega⟩
  rw [h3, h4]
  have h : ∀ n, fb_sm (fun l => GA gz l 3) n = 0 := fun n => by
    induction n with
    | zero => rfl
    | succ n ih => rw [fb_sm_succ, ih, gz_GA]
  exact h 16
theorem bl_z (i : Nat) : bl 0 i = false := by unfold bl; simp
theorem CR_z : CR gz 0 0 1 0 0 0 (fun _ => 0) (fun _ => 0) (flv 48 (-1) (fun _ => 0)) (fun _ => 0) := by
  refine ⟨⟨rfl, fun l _ => ?_, fun l _ => ?_, fun l p hl hp => ?_⟩, ⟨fun l _ => ?_, fun l j _ _ => ?_⟩, fun l _ => ?_, rfl, rfl, rfl, rfl⟩
  · rw [gz_GA]; rfl
  · rw [gz_GA]; rfl
  · rw [gz_src]
    unfold flv
    rw [if_pos (by omega)]
    rfl
  · unfold gw
    rw [bl_z, gz_GA]
    rfl
  · rw [bl_z, gz_GA, Nat.zero_testBit]
  · rw [gz_GA]; rfl
