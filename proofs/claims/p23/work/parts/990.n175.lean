theorem gI_one {big : List Cond} {c : Cond} (h : c ∈ big) (g : [c].all goodWord = true) : GoodIn big [c] := goodIn_sub (fun w q => (List.mem_singleton.mp q) ▸ h) g
