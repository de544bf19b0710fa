/-! Each instruction is what the tables say: by program. -/
def jm_chkL (i : Nat) : Bool := (List.range (jm_code i).length).all fun ix => match (jm_code i)[ix]? with
  | some e => jm_chk i ix e
  | none => true
theorem jm_chkL_s {i ix : Nat} {e : jm_T} (h : jm_chkL i = true) (hc : (jm_code i)[ix]? = some e) : jm_chk i ix e = true := by
  have h1 := List.all_eq_true.mp h ix (List.mem_range.mpr (List.getElem?_eq_some_iff.mp hc).1)
  rw [hc] at h1
  exact h1
theorem jm_chk_0 : jm_chkL 0 = true := by decide +kernel
theorem jm_chk_1 : jm_chkL 1 = true := by decide +kernel
theorem jm_chk_2 : jm_chkL 2 = true := by decide +kernel
theorem jm_chk_3 : jm_chkL 3 = true := by decide +kernel
theorem jm_chk_4 : jm_chkL 4 = true := by decide +kernel
theorem jm_chk_5 : jm_chkL 5 = true := by decide +kernel
theorem jm_chk_6 : jm_chkL 6 = true := by decide +kernel
theorem jm_chk_7 : jm_chkL 7 = true := by decide +kernel
theorem jm_chk_8 : jm_chkL 8 = true := by decide +kernel
theorem jm_chk_9 : jm_chkL 9 = true := by decide +kernel
theorem jm_chk_10 : jm_chkL 10 = true := by decide +kernel
theorem jm_chk_11 : jm_chkL 11 = true := by decide +kernel
theorem jm_chk_12 : jm_chkL 12 = true := by decide +kernel
theorem jm_chk_13 : jm_chkL 13 = true := by decide +kernel
theorem jm_chk_14 : jm_chkL 14 = true := by decide +kernel
theorem jm_chk_15 : jm_chkL 15 = true := by decide +kernel
theorem jm_chk_16 : jm_chkL 16 = true := by decide +kernel
theorem jm_chk_17 : jm_chkL 17 = true := by decide +kernel
theorem jm_chk_18 : jm_chkL 18 = true := by decide +kernel
theorem jm_chk_19 : jm_chkL 19 = true := by decide +kernel
theorem jm_chk_20 : jm_chkL 20 = true := by decide +kernel
theorem jm_chk_21 : jm_chkL 21 = true := by decide +kernel
theorem jm_chk_22 : jm_chkL 22 = true := by decide +kernel
theorem jm_chk_23 : jm_chkL 23 = true := by decide +kernel
theorem jm_chk_24 : jm_chkL 24 = true := by decide +kernel
theorem jm_chk_25 : jm_chkL 25 = true := by decide +kernel
theorem jm_chk_26 : jm_chkL 26 = true := by decide +kernel
theorem jm_chk_27 : jm_chkL 27 = true := by decide +kernel
theorem jm_chk_28 : jm_chkL 28 = true := by decide +kernel
theorem jm_chk_29 : jm_chkL 29 = true := by decide +kernel
theorem jm_chk_30 : jm_chkL 30 = true := by decide +kernel
theorem jm_chk_31 : jm_chkL 31 = true := by decide +kernel
theorem jm_chk_32 : jm_chkL 32 = true := by decide +kernel
theorem jm_chk_33 : jm_chkL 33 = true := by decide +kernel
theorem jm_chk_34 : jm_chkL 34 = true := by decide +kernel
theorem jm_chk_35 : jm_chkL 35 = true := by decide +kernel
theorem jm_chk_36 : jm_chkL 36 = true := by decide +kernel
theorem jm_chk_37 : jm_chkL 37 = true := by decide +kernel
theorem jm_chk_38 : jm_chkL 38 = true := by decide +kernel
theorem jm_chk_39 : jm_chkL 39 = true := by decide +kernel
theorem jm_chk_40 : jm_chkL 40 = true := by decide +kernel
theorem jm_chk_41 : jm_chkL 41 = true := by decide +kernel
theorem jm_chk_42 : jm_chkL 42 = true := by decide +kernel
theorem jm_chk_43 : jm_chkL 43 = true := by decide +kernel
theorem jm_chk_44 : jm_chkL 44 = true := by decide +kernel
theorem jm_chk_45 : jm_chkL 45 = true := by decide +kernel
theorem jm_chk_46 : jm_chkL 46 = true := by decide +kernel
theorem jm_chk_47 : jm_chkL 47 = true := by decide +kernel
theorem jm_chk_48 : jm_chkL 48 = true := by decide +kernel
theorem jm_chk_49 : jm_chkL 49 = true := by decide +kernel
