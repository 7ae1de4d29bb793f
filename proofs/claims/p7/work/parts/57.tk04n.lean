/-! ===== contracts: checks ===== -/
-- IceBoatsModel.many
def yD415 : List YD := yD_415 :: yD414
theorem yk_415 : ychk yKD (yct yB yD414) xMT xFT xSTX xm191 yD_415.2.1 yD_415.2.2.1 6000 = true := by decide +kernel
theorem yc_415 : ychks yKD yB xMT xFT xSTX yD415 = true := ychks_cons (d := yD_415) (L := yD414) (M := xm191) rfl yk_415 yc_414
-- IceBoatsModel.plan
def yD416 : List YD := yD_416 :: yD415
theorem yk_416 : ychk yKD (yct yB yD415) xMT xFT xSTX xm235 yD_416.2.1 yD_416.2.2.1 6000 = true := by decide +kernel
theorem yc_416 : ychks yKD yB xMT xFT xSTX yD416 = true := ychks_cons (d := yD_416) (L := yD415) (M := xm235) rfl yk_416 yc_415
-- IceBoatsModel.many
def yD417 : List YD := yD_417 :: yD416
theorem yk_417 : ychk yKD (yct yB yD416) xMT xFT xSTX xm191 yD_417.2.1 yD_417.2.2.1 6000 = true := by decide +kernel
theorem yc_417 : ychks yKD yB xMT xFT xSTX yD417 = true := ychks_cons (d := yD_417) (L := yD416) (M := xm191) rfl yk_417 yc_416
-- IceBoatsModel.plan
def yD418 : List YD := yD_418 :: yD417
theorem yk_418 : ychk yKD (yct yB yD417) xMT xFT xSTX xm235 yD_418.2.1 yD_418.2.2.1 6000 = true := by decide +kernel
theorem yc_418 : ychks yKD yB xMT xFT xSTX yD418 = true := ychks_cons (d := yD_418) (L := yD417) (M := xm235) rfl yk_418 yc_417
-- IceBoatsModel.many
def yD419 : List YD := yD_419 :: yD418
theorem yk_419 : ychk yKD (yct yB yD418) xMT xFT xSTX xm191 yD_419.2.1 yD_419.2.2.1 6000 = true := by decide +kernel
theorem yc_419 : ychks yKD yB xMT xFT xSTX yD419 = true := ychks_cons (d := yD_419) (L := yD418) (M := xm191) rfl yk_419 yc_418
-- IceBoatsModel.plan
def yD420 : List YD := yD_420 :: yD419
theorem yk_420 : ychk yKD (yct yB yD419) xMT xFT xSTX xm235 yD_420.2.1 yD_420.2.2.1 6000 = true := by decide +kernel
theorem yc_420 : ychks yKD yB xMT xFT xSTX yD420 = true := ychks_cons (d := yD_420) (L := yD419) (M := xm235) rfl yk_420 yc_419
