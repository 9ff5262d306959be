theorem mSec_some {w : kW} {n p a : Nat} {other no dawn : Int32} (hP : Pn n w) (hp : p < n) (h : mSec w p other no dawn = some a) : a < n ∧ mMay w a (nI p) other no dawn := by
  have h1 := List.mem_of_find?_eq_some h
  have h2 := List.find?_some h
  refine ⟨?_, of_decide_eq_true h2⟩
  have hn := hP.le
  have g1 := (hP.frd (k := 2 * p) (by omega)).1
  have g2 := (hP.frd (k := 2 * p + 1) (by omega)).1
  simp only [mCh, List.mem_cons, List.not_mem_nil, or_false] at h1
  rcases h1 with rfl | rfl | rfl | rfl | rfl | rfl
  · exact g1
  · exact g2
  · exact (hP.frd (by omega)).1
  · exact (hP.frd (by omega)).1
  · exact (hP.frd (by omega)).1
  · exact (hP.frd (by omega)).1
theorem mHurtF_met (w : kW) (hu y : Nat) (dawn : Int32) : (mHurtF w hu y dawn).1 0 28 = w.1 0 28 := by
  simp only [mHurtF]
  split <;> rfl
