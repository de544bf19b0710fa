/-! The class's methods never meet the script. -/
def jf_g5 (k : Nat) : Bool := Nat.ble k 30 || (Nat.ble 71 k && Nat.ble k 76 && !Nat.beq k 75)
theorem jf_t50 : ∀ i, i < 98 → (jm_code i).all (jf_e jf_g5 jf_pX) = true := by decide +kernel
theorem jf_t5 (i ix : Nat) (e : jm_T) (h : jf_pX i = true) (hc : (jm_code i)[ix]? = some e) : jf_e jf_g5 jf_pX e = true := List.all_eq_true.mp (jf_t50 i (Nat.le_of_ble_eq_true h)) e (List.mem_of_getElem? hc)
