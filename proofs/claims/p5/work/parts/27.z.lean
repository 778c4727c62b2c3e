/-! ===== the reference's lower names stay ===== -/
def gNl (M M1 : pM) : Prop := ∀ z : Nat, z < 8 → o_l (M1 299) z = o_l (M 299) z
theorem gNl.refl {M : pM} : gNl M M := fun _ _ => rfl
theorem gNl.tr {M M1 M2 : pM} (h : gNl M M1) (k : gNl M1 M2) : gNl M M2 := fun z hz => (k z hz).trans (h z hz)
theorem gNl.cg {M M1 M2 : pM} (h : gNl M M1) (e : M2 299 = M1 299) : gNl M M2 := fun z hz => by rw [e]; exact h z hz
theorem gNl.st {M M1 M2 : pM} {q : Nat} (h : gNl M M1) (U : gVl M1 M2 299 q) (hq : 8 ≤ q) : gNl M M2 := fun z hz => (U.2 z (by omega)).trans (h z hz)
