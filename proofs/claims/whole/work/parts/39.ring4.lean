/-! a visit of class street, whole -/
def vs_z (X : ka_X) (b : Nat) : ka_X := kn_row X (b + 11) (kn_zr 8 0 (X (b + 11)))
section
variable {sc : aS} {d : Nat} {b : Nat}
theorem sp_42 (hb : ka_k b = 4) {X : ka_X} (hn : tx_sz X (b + 6)) (hN : 0 ≤ (X b 1).toInt ∧ (X b 1).toInt ≤ 8) (hr : ∀ j, j < 4 → 0 ≤ (X (b + 2) j).toInt) : ka_ex sc (d + 4) 42 0 [.ref b, ka_nv, ka_nv, ka_nv, ka_nv, ka_nv] [] (ka_mem X) = some (some (.int (vs_go b (X b 1).toInt.toNat 0 0 (vs_z X b)).1), ka_mem (vs_go b (X b 1).toInt.toNat 0 0 (vs_z X b)).2) := by
  have e6 : vs_z X b (b + 6) = X (b + 6) := kn_row_off (by omega)
  have e2 : vs_z X b (b + 2) = X (b + 2) := kn_row_off (by omega)
  have e0 : vs_z X b b = X b := kn_row_off (by omega)
  rw [x42_0, x42_1, x42_2, x42_3, ka_cl_r, ka_cl_i, sp_42z hb 8 0 0 X rfl rfl, x42_26, x42_27, ka_cl_i]
  exact sp_42l hb _ 0 0 0 (vs_z X b) ka_nv ka_nv ka_nv (tx_sz_at e6 hn) (by rw [e0]; omega) (by omega) rfl (by intro j hj; rw [e2]; exact hr j hj)
end
