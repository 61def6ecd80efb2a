theorem mt_X7_35 : (∀ w ∈ vx_atS RX7 35 (mb_exn 0) mb_sup, w ∈ lw_tbl) ∧ (vx_atS RX7 35 (mb_exn 0) mb_sup).all (fun w => mb_gw w && vx_ot w) = true := ⟨by decide +kernel, by decide +kernel⟩
theorem mt_X7_57 : (∀ w ∈ vx_atS RX7 57 (mb_exn 2) mb_sup, w ∈ lw_tbl) ∧ (vx_atS RX7 57 (mb_exn 2) mb_sup).all (fun w => mb_gw w && vx_ot w) = true := ⟨by decide +kernel, by decide +kernel⟩
theorem mt_X7_80 : (∀ w ∈ vx_atS RX7 80 (mb_exn 1) mb_sup, w ∈ lw_tbl) ∧ (vx_atS RX7 80 (mb_exn 1) mb_sup).all (fun w => mb_gw w && vx_ot w) = true := ⟨by decide +kernel, by decide +kernel⟩
