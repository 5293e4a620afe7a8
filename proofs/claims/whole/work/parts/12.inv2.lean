/-! the calls keep it (behind the contracts: their specs' names) -/
theorem zs_Itk {S : zs_S} {i o j c t bk n : Nat} (h : zs_I S) (ho : o < 2) (hj : j < 36) (hn : n ≤ 5) : zs_I (zu_Bank_take S i o j c t bk n) := by
  have hk := (zs_IP h ho hj).1
  unfold zu_Bank_take zu_Bank_takeBack zu_Bank_takeVoucher
  repeat (first | with_reducible assumption | decide | omega | (with_reducible refine zs_I15 ?_ hk) | (with_reducible refine zs_I10 ?_ ?_) | (with_reducible refine zs_Iu ?_ ?_ ?_ ?_ ?_ ?_ ?_) | split)
theorem zs_Inr {S : zs_S} {i c j : Nat} {a : Int32} (h : zs_I S) : zs_I (zu_Ledger_noteReceived S i c j a) := by
  unfold zu_Ledger_noteReceived
  repeat (first | with_reducible assumption | decide | omega | (with_reducible refine zs_I5 ?_ ?_) | (with_reducible refine zs_Iu ?_ ?_ ?_ ?_ ?_ ?_ ?_) | split)
theorem zs_Ise {S : zs_S} {i c j : Nat} {x : Int32} (h : zs_I S) : zs_I (zu_Ledger_settle S i c j x) := by
  unfold zu_Ledger_settle
  repeat (first | with_reducible assumption | decide | omega | (with_reducible refine zs_I5 ?_ ?_) | (with_reducible refine zs_I6 ?_) | (with_reducible refine zs_Iu ?_ ?_ ?_ ?_ ?_ ?_ ?_) | split)
theorem zs_IrP {S : zs_S} {i o c j : Nat} {h w : Int32} (hi : i < 2) (ho : o < 2) (hc : c < 3) (hj : j < 12) (hI : zs_I S) : zs_I (zu_Ledger_receivePacket S i o c j h w) := by
  have hn := (zs_IV hI hi).2
  have hk : 12 * c + j < 36 := by omega
  unfold zu_Ledger_receivePacket
  repeat (first | with_reducible assumption | decide | omega | with_reducible exact zs_Inr (zs_Itk hI ho hk hn) | split)
theorem zs_IrA {S : zs_S} {i o c j : Nat} {h : Int32} (hi : i < 2) (ho : o < 2) (hc : c < 3) (hj : j < 12) (hI : zs_I S) : zs_I (zu_Ledger_settleAnswered S i o c j h) := by
  unfold zu_Ledger_settleAnswered
  repeat (first | with_reducible assumption | decide | omega | with_reducible exact zs_Ise (zs_I1 hI) | with_reducible exact zs_Ise hI | split)
theorem zs_IrT {S : zs_S} {i o c j : Nat} {h w : Int32} (hi : i < 2) (ho : o < 2) (hc : c < 3) (hj : j < 12) (hI : zs_I S) : zs_I (zu_Ledger_settleTimedOut S i o c j h w) := by
  unfold zu_Ledger_settleTimedOut
  repeat (first | with_reducible assumption | decide | omega | with_reducible exact zs_Ise hI | (with_reducible refine zs_I5 ?_ ?_) | (with_reducible refine zs_Iu ?_ ?_ ?_ ?_ ?_ ?_ ?_) | split)
