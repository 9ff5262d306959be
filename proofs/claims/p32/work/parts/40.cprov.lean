def cKt (c : Nat) (w v : kW) : Prop := (∀ j, j < 6 ∨ (10 < j ∧ j < 15) ∨ 29 < j → v.1 j = w.1 j) ∧ v.1 6 0 = w.1 6 0 ∧ ∀ j k, 7 ≤ j → j ≤ 10 → k < c → v.1 j k = w.1 j k
theorem cKt.rf {c : Nat} {w : kW} : cKt c w w := ⟨fun _ _ => rfl, rfl, fun _ _ _ _ _ => rfl⟩
theorem cKt.of {c : Nat} {w v : kW} (h : cK2 w v) : cKt c w v := ⟨fun j a => h j (by omega), by rw [h 6 (by omega)], fun j k a b _ => by rw [h j (by omega)]⟩
