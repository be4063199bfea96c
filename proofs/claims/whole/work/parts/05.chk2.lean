set_option maxRecDepth 100000 in
theorem eOK_0 : (List.range' 0 16).all (fun mi => (kLt mi).all (eOK mi)) = true := by decide +kernel
set_option maxRecDepth 100000 in
theorem eOK_16 : (List.range' 16 16).all (fun mi => (kLt mi).all (eOK mi)) = true := by decide +kernel
set_option maxRecDepth 100000 in
theorem eOK_32 : (List.range' 32 16).all (fun mi => (kLt mi).all (eOK mi)) = true := by decide +kernel
set_option maxRecDepth 100000 in
theorem eOK_48 : (List.range' 48 16).all (fun mi => (kLt mi).all (eOK mi)) = true := by decide +kernel
set_option maxRecDepth 100000 in
theorem eOK_64 : (List.range' 64 16).all (fun mi => (kLt mi).all (eOK mi)) = true := by decide +kernel
set_option maxRecDepth 100000 in
theorem eOK_80 : (List.range' 80 16).all (fun mi => (kLt mi).all (eOK mi)) = true := by decide +kernel
