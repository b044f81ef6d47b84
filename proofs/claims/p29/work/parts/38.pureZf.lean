/-! Fresh objects. -/
def iniC : St := fun k _ => if k = 27 then 2 else 0
def iniA : Ab := resetA (fun _ _ => 0) 2
theorem iniA_z {k j : Nat} (h : k ≠ 0) : iniA k j = 0 := by
  unfold iniA resetA
  rw [if_neg (fun q => h q.1)]
  by_cases c : k = 1 ∨ k = 2 ∨ k = 3 ∨ k = 10 ∨ k = 12
  · rw [if_pos c]
  · rw [if_neg c]
theorem iniA_mk {i : Nat} (h : mk iniA i) : False := resetA_mk _ _ h
theorem Inv_ini : Inv iniA (fun _ _ => 0) := by
  have t0 : tot iniA = 0 := resetA_tot _ _
  refine ⟨?_, fun s hs => ?_, fun s i hs hi => ?_, fun i hi => (iniA_mk hi).elim, fun i j hi => (iniA_mk hi).elim, ⟨fun p hp => ?_, fun p q _ hq => ?_, fun i hi => (iniA_mk hi).elim⟩, fun L hL => ?_⟩
  · unfold I_n iniA; rw [resetA_0]; omega
  · rw [iniA_z (k := 1) (by omega), iniA_z (k := 2) (by omega), iniA_z (k := 10) (by omega), iniA_z (k := 11) (by omega)]
    exact ⟨by omega, by omega, by omega, by omega, fun _ => ⟨rfl, rfl, rfl⟩⟩
  · rw [iniA_z (k := 3) (by omega)]
    exact ⟨by omega, fun h => by omega⟩
  · rw [t0] at hp; omega
  · rw [t0] at hq; omega
  · rw [iniA_z (k := 12) (by omega)]
    exact ⟨by omega, fun h => absurd rfl h, fun k hk => by omega⟩
theorem iniC_z {k j : Nat} (h : k ≠ 27) : iniC k j = 0 := by unfold iniC; rw [if_neg h]
